def wB_LT_431_512 (nw : Int) (nc : Int) (np : Int) (ns : Int) (tu : Int) (nn : Int) (sv : Int) (pz : Int) (KU1105 : Int → Int → Int → Int → Int → Int → Int → Int → Int → jv_Mem → Prop) (y0_512 : Int) (gj_512 : jv_Mem) : Prop :=
  KU1105 nw nc np ns y0_512 tu nn sv pz gj_512
def wB_LT_431_511 (nw : Int) (nc : Int) (np : Int) (ns : Int) (tu : Int) (nn : Int) (sv : Int) (pz : Int) (KU1105 : Int → Int → Int → Int → Int → Int → Int → Int → Int → jv_Mem → Prop) (gj_511 : jv_Mem) : Prop :=
  wB_LT_431_512 nw nc np ns tu nn sv pz KU1105 0 gj_511
def wB_LT_431_507 (nw : Int) (nc : Int) (np : Int) (ns : Int) (tu : Int) (nn : Int) (sv : Int) (pz : Int) (KU1105 : Int → Int → Int → Int → Int → Int → Int → Int → Int → jv_Mem → Prop) (gj_507 : jv_Mem) : Prop :=
  wB_LT_431_512 nw nc np ns tu nn sv pz KU1105 1 gj_507
def wB_LT_431_459 (nw : Int) (nc : Int) (np : Int) (ns : Int) (tu : Int) (nn : Int) (vv : Int) (sv : Int) (pz : Int) (KU1105 : Int → Int → Int → Int → Int → Int → Int → Int → Int → jv_Mem → Prop) (y0_459 : Int) (gj_459 : jv_Mem) : Prop :=
  (wp_L_low vv 9 (fun (r_466 : Int) (g_466 : jv_Mem) => (wp_X8_fix r_466 y0_459 (fun (r_471 : Int) (g_471 : jv_Mem) => (∃ gG_471 : jv_Mem, jv_sm g_471 gG_471 ∧ (wp_L_low vv 9 (fun (r_480 : Int) (g_480 : jv_Mem) => (wp_X8_fix r_480 y0_459 (fun (r_485 : Int) (g_485 : jv_Mem) => (∃ gG_485 : jv_Mem, jv_sm g_485 gG_485 ∧ ((jv_r r_485 ∧ jv_r y0_459) ∧ (¬ r_485 = y0_459 → wB_LT_431_511 nw nc np ns tu nn sv pz KU1105 gG_485) ∧ (r_485 = y0_459 → ((jv_r (jv_rem nn 3)) ∧ (0 < (jv_rem nn 3) → wB_LT_431_507 nw nc np ns tu nn sv pz KU1105 gG_485) ∧ ((jv_rem nn 3) ≤ 0 → (wp_L_fill (fun (r_501 : Int) (g_501 : jv_Mem) => ((jv_r r_501) ∧ (r_501 = 0 → wB_LT_431_511 nw nc np ns tu nn sv pz KU1105 g_501) ∧ (¬ r_501 = 0 → wB_LT_431_507 nw nc np ns tu nn sv pz KU1105 g_501))) gG_485))))))) g_480)) gG_471))) g_466)) gj_459)
def wp_LT_431 (KU517 : Int → Int → Int → Int → Int → Int → Int → Int → Int → Int → Int → jv_Mem → Prop) (KU1105 : Int → Int → Int → Int → Int → Int → Int → Int → Int → jv_Mem → Prop) (nw nc np ns tu nn vv wd sv pz so : Int) (g : jv_Mem) : Prop :=
  ((jv_r so) ∧ (8 ≤ so → KU517 nw nc np ns tu nn vv wd sv pz so g) ∧ (so < 8 → (wp_L_low (jv_shr vv 9) 5 (fun (r_444 : Int) (g_444 : jv_Mem) => ((jv_r r_444) ∧ (r_444 ≤ 0 → (wp_L_letter vv (fun (r_456 : Int) (g_456 : jv_Mem) => wB_LT_431_459 nw nc np ns tu nn vv sv pz KU1105 r_456 g_456) g_444)) ∧ (0 < r_444 → wB_LT_431_459 nw nc np ns tu nn vv sv pz KU1105 ((-1)) g_444))) g)))
set_option maxHeartbeats 4000000 in
set_option maxRecDepth 100000 in
theorem LT_431 {p : Program} {l : Launch} {e : Env} {m : MethodId} {below : List Frame} {meth : Method} {c : Code} {s0 : State} {b0 : Addr} {D : va_G} {ids : Nat → ClassId} {L : Nat} {xs : Nat → Int32} (hT : jv_T l s0 b0) (C : jv_C p s0 m #[Value.ref b0] c code RL s0 b0 D ids) (hml : 17 = c.maxLocals) (hr : meth.sig.returnType = ret) (hlk : meth.locks = false) (hX : va_X b0 L xs s0 s0.heap) (hbl : b0 < s0.heap.size) (hL : L ≤ 260) {cb sb : Nat} (hcb : cb ≤ 590000) (hsb : sb ≤ 7200000) {KU517 : Int → Int → Int → Int → Int → Int → Int → Int → Int → Int → Int → jv_Mem → Prop} {KU1105 : Int → Int → Int → Int → Int → Int → Int → Int → Int → jv_Mem → Prop} (hU517 : ∀ (nw nc np ns tu nn vv wd sv pz so : Int) (g : jv_Mem), KU517 nw nc np ns tu nn vv wd sv pz so g → jv_V p l e room_1 s0 m #[Value.ref b0] below meth c (cb + 0) (sb + 0) (lw_Z below #[Value.ref b0] s0) s0 D ids none jv_SH g 517 [some (.ref b0), some (.ref (s0.heap.size + (0 : Int).toNat)), some (jv_i nw), some (jv_i nc), some (jv_i np), some (jv_i ns), none, some (jv_i tu), some (jv_i nn), some (jv_i vv), some (jv_i wd), some (jv_i sv), some (jv_i pz), some (jv_i so), none, none, none] []) (hU1105 : ∀ (nw nc np ns ii tu nn sv pz : Int) (g : jv_Mem), KU1105 nw nc np ns ii tu nn sv pz g → jv_V p l e room_1 s0 m #[Value.ref b0] below meth c (cb + 4) (sb + 24) (lw_Z below #[Value.ref b0] s0) s0 D ids none jv_SH g 1105 [some (.ref b0), some (.ref (s0.heap.size + (0 : Int).toNat)), some (jv_i nw), some (jv_i nc), some (jv_i np), some (jv_i ns), some (jv_i ii), some (jv_i tu), some (jv_i nn), none, none, some (jv_i sv), some (jv_i pz), none, none, none, none] []) {nw nc np ns tu nn vv wd sv pz so : Int} {g : jv_Mem} (h : wp_LT_431 KU517 KU1105 nw nc np ns tu nn vv wd sv pz so g) : jv_V p l e room_1 s0 m #[Value.ref b0] below meth c (cb + 0) (sb + 0) (lw_Z below #[Value.ref b0] s0) s0 D ids none jv_SH g 431 [some (.ref b0), some (.ref (s0.heap.size + (0 : Int).toNat)), some (jv_i nw), some (jv_i nc), some (jv_i np), some (jv_i ns), none, some (jv_i tu), some (jv_i nn), some (jv_i vv), some (jv_i wd), some (jv_i sv), some (jv_i pz), some (jv_i so), none, none, none] [] := by
  unfold wp_LT_431 at h
  refine jv_iload C dL_law_431 rfl ?_
  refine jv_bipush C dL_law_433 (by decide +kernel) ?_
  obtain ⟨hr_435, h1_435, h2_435⟩ := h
  refine jv_icmp_ge (tgt := 517) C hr_435 ⟨by decide, by decide⟩ dL_law_435 rfl (fun hc_435 => ?_) (fun hc_435 => ?_)
  · replace h := h1_435 hc_435
    refine jv_wd (k := cb + 0) (n := sb + 0) (Nat.ble_eq_true_of_le (by omega)) (Nat.ble_eq_true_of_le (by omega)) ?_
    exact jv_less (ls' := [some (.ref b0), some (.ref (s0.heap.size + (0 : Int).toNat)), some (jv_i nw), some (jv_i nc), some (jv_i np), some (jv_i ns), none, some (jv_i tu), some (jv_i nn), some (jv_i vv), some (jv_i wd), some (jv_i sv), some (jv_i pz), some (jv_i so), none, none, none]) ⟨rfl, ⟨rfl, ⟨rfl, ⟨rfl, ⟨rfl, ⟨rfl, ⟨rfl, ⟨rfl, ⟨rfl, ⟨rfl, ⟨rfl, ⟨rfl, ⟨rfl, trivial⟩⟩⟩⟩⟩⟩⟩⟩⟩⟩⟩⟩⟩ (hU517 _ _ _ _ _ _ _ _ _ _ _ _ h)
  · replace h := h2_435 hc_435
    refine jv_iload C dL_law_438 rfl ?_
    refine jv_bipush C dL_law_440 (by decide +kernel) ?_
    refine jv_ishr C dL_law_442 ?_
    refine jv_const C dL_law_443 ?_
    refine jv_callSi C (M_L_low h) kw_L_52 rfl ⟨rfl, rfl⟩ (st := []) rfl rfl ⟨Nat.ble_eq_true_of_le (by show _ ≤ 600104; omega), Nat.ble_eq_true_of_le (by show _ ≤ 7301314; omega)⟩ dL_law_444 (fun r_444 g_444 h => ?_)
    have hJ459 : ∀ (y0_459 : Int) (gj_459 : jv_Mem), wB_LT_431_459 nw nc np ns tu nn vv sv pz KU1105 y0_459 gj_459 → jv_V p l e room_1 s0 m #[Value.ref b0] below meth c (cb + 0) (sb + 0) (lw_Z below #[Value.ref b0] s0) s0 D ids none jv_SH gj_459 459 [some (.ref b0), some (.ref (s0.heap.size + (0 : Int).toNat)), some (jv_i nw), some (jv_i nc), some (jv_i np), some (jv_i ns), none, some (jv_i tu), some (jv_i nn), some (jv_i vv), none, some (jv_i sv), some (jv_i pz), none, none, none, none] [jv_i y0_459] := by
      intro y0_459 gj_459 h
      unfold wB_LT_431_459 at h
      refine jv_istore (ls' := [some (.ref b0), some (.ref (s0.heap.size + (0 : Int).toNat)), some (jv_i nw), some (jv_i nc), some (jv_i np), some (jv_i ns), none, some (jv_i tu), some (jv_i nn), some (jv_i vv), none, some (jv_i sv), some (jv_i pz), none, some (jv_i y0_459), none, none]) C dL_law_459 (Nat.lt_of_lt_of_eq (Nat.le_of_ble_eq_true rfl) hml) rfl ?_
      refine jv_aload_n C dL_law_461 rfl ?_
      refine jv_iload C dL_law_462 rfl ?_
      refine jv_bipush C dL_law_464 (by decide +kernel) ?_
      refine jv_callSi C (M_L_low h) kw_L_52 rfl ⟨rfl, rfl⟩ (st := [.ref (s0.heap.size + (0 : Int).toNat)]) rfl rfl ⟨Nat.ble_eq_true_of_le (by show _ ≤ 600104; omega), Nat.ble_eq_true_of_le (by show _ ≤ 7301314; omega)⟩ dL_law_466 (fun r_466 g_466 h => ?_)
      refine jv_iload C dL_law_469 rfl ?_
      refine jv_callVi C (M_X8_fix h) kw_L_112 sS_0 rfl rfl ⟨rfl, rfl⟩ (st := []) rfl rfl ⟨Nat.ble_eq_true_of_le (by show _ ≤ 600104; omega), Nat.ble_eq_true_of_le (by show _ ≤ 7301314; omega)⟩ dL_law_471 (fun r_471 g_471 h => ?_)
      obtain ⟨gG_471, hG_471, h⟩ := h
      refine jv_gh hG_471 ?_
      refine jv_pop C rfl dL_law_474 ?_
      refine jv_aload_n C dL_law_475 rfl ?_
      refine jv_iload C dL_law_476 rfl ?_
      refine jv_bipush C dL_law_478 (by decide +kernel) ?_
      refine jv_callSi C (M_L_low h) kw_L_52 rfl ⟨rfl, rfl⟩ (st := [.ref (s0.heap.size + (0 : Int).toNat)]) rfl rfl ⟨Nat.ble_eq_true_of_le (by show _ ≤ 600104; omega), Nat.ble_eq_true_of_le (by show _ ≤ 7301314; omega)⟩ dL_law_480 (fun r_480 g_480 h => ?_)
      refine jv_iload C dL_law_483 rfl ?_
      refine jv_callVi C (M_X8_fix h) kw_L_112 sS_0 rfl rfl ⟨rfl, rfl⟩ (st := []) rfl rfl ⟨Nat.ble_eq_true_of_le (by show _ ≤ 600104; omega), Nat.ble_eq_true_of_le (by show _ ≤ 7301314; omega)⟩ dL_law_485 (fun r_485 g_485 h => ?_)
      obtain ⟨gG_485, hG_485, h⟩ := h
      refine jv_gh hG_485 ?_
      refine jv_iload C dL_law_488 rfl ?_
      have hJ512 : ∀ (y0_512 : Int) (gj_512 : jv_Mem), wB_LT_431_512 nw nc np ns tu nn sv pz KU1105 y0_512 gj_512 → jv_V p l e room_1 s0 m #[Value.ref b0] below meth c (cb + 0) (sb + 0) (lw_Z below #[Value.ref b0] s0) s0 D ids none jv_SH gj_512 512 [some (.ref b0), some (.ref (s0.heap.size + (0 : Int).toNat)), some (jv_i nw), some (jv_i nc), some (jv_i np), some (jv_i ns), none, some (jv_i tu), some (jv_i nn), none, none, some (jv_i sv), some (jv_i pz), none, none, none, none] [jv_i y0_512] := by
        intro y0_512 gj_512 h
        unfold wB_LT_431_512 at h
        refine jv_istore (ls' := [some (.ref b0), some (.ref (s0.heap.size + (0 : Int).toNat)), some (jv_i nw), some (jv_i nc), some (jv_i np), some (jv_i ns), some (jv_i y0_512), some (jv_i tu), some (jv_i nn), none, none, some (jv_i sv), some (jv_i pz), none, none, none, none]) C dL_law_512 (Nat.lt_of_lt_of_eq (Nat.le_of_ble_eq_true rfl) hml) rfl ?_
        refine jv_goto (tgt := 1105) C dL_law_514 rfl ?_
        refine jv_wd (k := cb + 4) (n := sb + 24) (Nat.ble_eq_true_of_le (by omega)) (Nat.ble_eq_true_of_le (by omega)) ?_
        exact jv_less (ls' := [some (.ref b0), some (.ref (s0.heap.size + (0 : Int).toNat)), some (jv_i nw), some (jv_i nc), some (jv_i np), some (jv_i ns), some (jv_i y0_512), some (jv_i tu), some (jv_i nn), none, none, some (jv_i sv), some (jv_i pz), none, none, none, none]) ⟨rfl, ⟨rfl, ⟨rfl, ⟨rfl, ⟨rfl, ⟨rfl, ⟨rfl, ⟨rfl, ⟨rfl, ⟨rfl, ⟨rfl, trivial⟩⟩⟩⟩⟩⟩⟩⟩⟩⟩⟩ (hU1105 _ _ _ _ _ _ _ _ _ _ h)
      have hJ511 : ∀ (gj_511 : jv_Mem), wB_LT_431_511 nw nc np ns tu nn sv pz KU1105 gj_511 → jv_V p l e room_1 s0 m #[Value.ref b0] below meth c (cb + 0) (sb + 0) (lw_Z below #[Value.ref b0] s0) s0 D ids none jv_SH gj_511 511 [some (.ref b0), some (.ref (s0.heap.size + (0 : Int).toNat)), some (jv_i nw), some (jv_i nc), some (jv_i np), some (jv_i ns), none, some (jv_i tu), some (jv_i nn), none, none, some (jv_i sv), some (jv_i pz), none, none, none, none] [] := by
        intro gj_511 h
        unfold wB_LT_431_511 at h
        refine jv_const C dL_law_511 ?_
        refine jv_wd (k := cb + 0) (n := sb + 0) (Nat.ble_eq_true_of_le (by omega)) (Nat.ble_eq_true_of_le (by omega)) ?_
        exact jv_less (ls' := [some (.ref b0), some (.ref (s0.heap.size + (0 : Int).toNat)), some (jv_i nw), some (jv_i nc), some (jv_i np), some (jv_i ns), none, some (jv_i tu), some (jv_i nn), none, none, some (jv_i sv), some (jv_i pz), none, none, none, none]) ⟨rfl, ⟨rfl, ⟨rfl, ⟨rfl, ⟨rfl, ⟨rfl, ⟨rfl, ⟨rfl, ⟨rfl, ⟨rfl, trivial⟩⟩⟩⟩⟩⟩⟩⟩⟩⟩ (hJ512 _ _ h)
      obtain ⟨hr_490, h1_490, h2_490⟩ := h
      refine jv_icmp_ne (tgt := 511) C hr_490.1 hr_490.2 dL_law_490 rfl (fun hc_490 => ?_) (fun hc_490 => ?_)
      · replace h := h1_490 hc_490
        refine jv_wd (k := cb + 0) (n := sb + 0) (Nat.ble_eq_true_of_le (by omega)) (Nat.ble_eq_true_of_le (by omega)) ?_
        exact jv_less (ls' := [some (.ref b0), some (.ref (s0.heap.size + (0 : Int).toNat)), some (jv_i nw), some (jv_i nc), some (jv_i np), some (jv_i ns), none, some (jv_i tu), some (jv_i nn), none, none, some (jv_i sv), some (jv_i pz), none, none, none, none]) ⟨rfl, ⟨rfl, ⟨rfl, ⟨rfl, ⟨rfl, ⟨rfl, ⟨rfl, ⟨rfl, ⟨rfl, ⟨rfl, trivial⟩⟩⟩⟩⟩⟩⟩⟩⟩⟩ (hJ511 _ h)
      · replace h := h2_490 hc_490
        refine jv_iload C dL_law_493 rfl ?_
        refine jv_const C dL_law_495 ?_
        refine jv_irem C (by decide +kernel) dL_law_496 ?_
        have hJ507 : ∀ (gj_507 : jv_Mem), wB_LT_431_507 nw nc np ns tu nn sv pz KU1105 gj_507 → jv_V p l e room_1 s0 m #[Value.ref b0] below meth c (cb + 0) (sb + 0) (lw_Z below #[Value.ref b0] s0) s0 D ids none jv_SH gj_507 507 [some (.ref b0), some (.ref (s0.heap.size + (0 : Int).toNat)), some (jv_i nw), some (jv_i nc), some (jv_i np), some (jv_i ns), none, some (jv_i tu), some (jv_i nn), none, none, some (jv_i sv), some (jv_i pz), none, none, none, none] [] := by
          intro gj_507 h
          unfold wB_LT_431_507 at h
          refine jv_const C dL_law_507 ?_
          refine jv_goto (tgt := 512) C dL_law_508 rfl ?_
          refine jv_wd (k := cb + 0) (n := sb + 0) (Nat.ble_eq_true_of_le (by omega)) (Nat.ble_eq_true_of_le (by omega)) ?_
          exact jv_less (ls' := [some (.ref b0), some (.ref (s0.heap.size + (0 : Int).toNat)), some (jv_i nw), some (jv_i nc), some (jv_i np), some (jv_i ns), none, some (jv_i tu), some (jv_i nn), none, none, some (jv_i sv), some (jv_i pz), none, none, none, none]) ⟨rfl, ⟨rfl, ⟨rfl, ⟨rfl, ⟨rfl, ⟨rfl, ⟨rfl, ⟨rfl, ⟨rfl, ⟨rfl, trivial⟩⟩⟩⟩⟩⟩⟩⟩⟩⟩ (hJ512 _ _ h)
        obtain ⟨hr_497, h1_497, h2_497⟩ := h
        refine jv_if_gt (tgt := 507) C hr_497 dL_law_497 rfl (fun hc_497 => ?_) (fun hc_497 => ?_)
        · replace h := h1_497 hc_497
          refine jv_wd (k := cb + 0) (n := sb + 0) (Nat.ble_eq_true_of_le (by omega)) (Nat.ble_eq_true_of_le (by omega)) ?_
          exact jv_less (ls' := [some (.ref b0), some (.ref (s0.heap.size + (0 : Int).toNat)), some (jv_i nw), some (jv_i nc), some (jv_i np), some (jv_i ns), none, some (jv_i tu), some (jv_i nn), none, none, some (jv_i sv), some (jv_i pz), none, none, none, none]) ⟨rfl, ⟨rfl, ⟨rfl, ⟨rfl, ⟨rfl, ⟨rfl, ⟨rfl, ⟨rfl, ⟨rfl, ⟨rfl, trivial⟩⟩⟩⟩⟩⟩⟩⟩⟩⟩ (hJ507 _ h)
        · replace h := h2_497 hc_497
          refine jv_aload_n C dL_law_500 rfl ?_
          refine jv_callSi C (M_L_fill h) kw_L_87 rfl ⟨rfl, rfl⟩ (st := []) rfl rfl ⟨Nat.ble_eq_true_of_le (by show _ ≤ 600104; omega), Nat.ble_eq_true_of_le (by show _ ≤ 7301314; omega)⟩ dL_law_501 (fun r_501 g_501 h => ?_)
          obtain ⟨hr_504, h1_504, h2_504⟩ := h
          refine jv_if_eq (tgt := 511) C hr_504 dL_law_504 rfl (fun hc_504 => ?_) (fun hc_504 => ?_)
          · replace h := h1_504 hc_504
            refine jv_wd (k := cb + 0) (n := sb + 0) (Nat.ble_eq_true_of_le (by omega)) (Nat.ble_eq_true_of_le (by omega)) ?_
            exact jv_less (ls' := [some (.ref b0), some (.ref (s0.heap.size + (0 : Int).toNat)), some (jv_i nw), some (jv_i nc), some (jv_i np), some (jv_i ns), none, some (jv_i tu), some (jv_i nn), none, none, some (jv_i sv), some (jv_i pz), none, none, none, none]) ⟨rfl, ⟨rfl, ⟨rfl, ⟨rfl, ⟨rfl, ⟨rfl, ⟨rfl, ⟨rfl, ⟨rfl, ⟨rfl, trivial⟩⟩⟩⟩⟩⟩⟩⟩⟩⟩ (hJ511 _ h)
          · replace h := h2_504 hc_504
            refine jv_wd (k := cb + 0) (n := sb + 0) (Nat.ble_eq_true_of_le (by omega)) (Nat.ble_eq_true_of_le (by omega)) ?_
            exact jv_less (ls' := [some (.ref b0), some (.ref (s0.heap.size + (0 : Int).toNat)), some (jv_i nw), some (jv_i nc), some (jv_i np), some (jv_i ns), none, some (jv_i tu), some (jv_i nn), none, none, some (jv_i sv), some (jv_i pz), none, none, none, none]) ⟨rfl, ⟨rfl, ⟨rfl, ⟨rfl, ⟨rfl, ⟨rfl, ⟨rfl, ⟨rfl, ⟨rfl, ⟨rfl, trivial⟩⟩⟩⟩⟩⟩⟩⟩⟩⟩ (hJ507 _ h)
    obtain ⟨hr_447, h1_447, h2_447⟩ := h
    refine jv_if_le (tgt := 454) C hr_447 dL_law_447 rfl (fun hc_447 => ?_) (fun hc_447 => ?_)
    · replace h := h1_447 hc_447
      refine jv_iload C dL_law_454 rfl ?_
      refine jv_callSi C (M_L_letter h) kw_L_98 rfl ⟨rfl, rfl⟩ (st := []) rfl rfl ⟨Nat.ble_eq_true_of_le (by show _ ≤ 600104; omega), Nat.ble_eq_true_of_le (by show _ ≤ 7301314; omega)⟩ dL_law_456 (fun r_456 g_456 h => ?_)
      refine jv_wd (k := cb + 0) (n := sb + 0) (Nat.ble_eq_true_of_le (by omega)) (Nat.ble_eq_true_of_le (by omega)) ?_
      exact jv_less (ls' := [some (.ref b0), some (.ref (s0.heap.size + (0 : Int).toNat)), some (jv_i nw), some (jv_i nc), some (jv_i np), some (jv_i ns), none, some (jv_i tu), some (jv_i nn), some (jv_i vv), none, some (jv_i sv), some (jv_i pz), none, none, none, none]) ⟨rfl, ⟨rfl, ⟨rfl, ⟨rfl, ⟨rfl, ⟨rfl, ⟨rfl, ⟨rfl, ⟨rfl, ⟨rfl, ⟨rfl, trivial⟩⟩⟩⟩⟩⟩⟩⟩⟩⟩⟩ (hJ459 _ _ h)
    · replace h := h2_447 hc_447
      refine jv_const C dL_law_450 ?_
      refine jv_goto (tgt := 459) C dL_law_451 rfl ?_
      refine jv_wd (k := cb + 0) (n := sb + 0) (Nat.ble_eq_true_of_le (by omega)) (Nat.ble_eq_true_of_le (by omega)) ?_
      exact jv_less (ls' := [some (.ref b0), some (.ref (s0.heap.size + (0 : Int).toNat)), some (jv_i nw), some (jv_i nc), some (jv_i np), some (jv_i ns), none, some (jv_i tu), some (jv_i nn), some (jv_i vv), none, some (jv_i sv), some (jv_i pz), none, none, none, none]) ⟨rfl, ⟨rfl, ⟨rfl, ⟨rfl, ⟨rfl, ⟨rfl, ⟨rfl, ⟨rfl, ⟨rfl, ⟨rfl, ⟨rfl, trivial⟩⟩⟩⟩⟩⟩⟩⟩⟩⟩⟩ (hJ459 _ _ h)
