def wB_LT_517_623 (nw : Int) (nc : Int) (np : Int) (ns : Int) (tu : Int) (nn : Int) (sv : Int) (pz : Int) (KU1105 : Int → Int → Int → Int → Int → Int → Int → Int → Int → jv_Mem → Prop) (y0_608 : Int) (y0_623 : Int) (gj_623 : jv_Mem) : Prop :=
  (∀ v3_624 : Int, v3_624 = nc + y0_623 → KU1105 nw v3_624 np ns y0_608 tu nn sv pz gj_623)
def wB_LT_517_608 (nw : Int) (nc : Int) (np : Int) (ns : Int) (tu : Int) (nn : Int) (sv : Int) (pz : Int) (KU1105 : Int → Int → Int → Int → Int → Int → Int → Int → Int → jv_Mem → Prop) (r_527 : Int) (y0_608 : Int) (gj_608 : jv_Mem) : Prop :=
  ((jv_r r_527) ∧ (¬ r_527 = ((-3)) → wB_LT_517_623 nw nc np ns tu nn sv pz KU1105 y0_608 1 gj_608) ∧ (r_527 = ((-3)) → wB_LT_517_623 nw nc np ns tu nn sv pz KU1105 y0_608 0 gj_608))
def wB_LT_517_607 (nw : Int) (nc : Int) (np : Int) (ns : Int) (tu : Int) (nn : Int) (sv : Int) (pz : Int) (KU1105 : Int → Int → Int → Int → Int → Int → Int → Int → Int → jv_Mem → Prop) (r_527 : Int) (gj_607 : jv_Mem) : Prop :=
  wB_LT_517_608 nw nc np ns tu nn sv pz KU1105 r_527 0 gj_607
def wp_LT_517 (KU628 : Int → Int → Int → Int → Int → Int → Int → Int → Int → Int → jv_Mem → Prop) (KU1105 : Int → Int → Int → Int → Int → Int → Int → Int → Int → jv_Mem → Prop) (nw nc np ns tu nn vv wd sv pz so : Int) (g : jv_Mem) : Prop :=
  ((jv_r so) ∧ (13 ≤ so → KU628 nw nc np ns tu nn vv sv pz so g) ∧ (so < 13 → (wp_L_clue wd (fun (r_527 : Int) (g_527 : jv_Mem) => ((jv_r r_527) ∧ (¬ r_527 = ((-3)) → ((jv_r r_527 ∧ jv_r nc) ∧ (¬ r_527 = nc → wB_LT_517_607 nw nc np ns tu nn sv pz KU1105 r_527 g_527) ∧ (r_527 = nc → (wp_X8_lastUsed r_527 (fun (r_562 : Int) (g_562 : jv_Mem) => ((jv_r r_562) ∧ (¬ r_562 = ((-1)) → wB_LT_517_607 nw nc np ns tu nn sv pz KU1105 r_527 g_562) ∧ (r_562 = ((-1)) → (wp_L_edit r_527 1 (fun (r_573 : Int) (g_573 : jv_Mem) => ((jv_r r_573) ∧ (¬ r_573 = 1 → wB_LT_517_607 nw nc np ns tu nn sv pz KU1105 r_527 g_573) ∧ (r_573 = 1 → (wp_L_edit r_527 1 (fun (r_584 : Int) (g_584 : jv_Mem) => ((jv_r r_584) ∧ (¬ r_584 = 2 → wB_LT_517_607 nw nc np ns tu nn sv pz KU1105 r_527 g_584) ∧ (r_584 = 2 → (wp_L_edit r_527 1 (fun (r_595 : Int) (g_595 : jv_Mem) => ((jv_r r_595) ∧ (¬ r_595 = ((-3)) → wB_LT_517_607 nw nc np ns tu nn sv pz KU1105 r_527 g_595) ∧ (r_595 = ((-3)) → wB_LT_517_608 nw nc np ns tu nn sv pz KU1105 r_527 1 g_595))) g_584)))) g_573)))) g_562)))) g_527)))) ∧ (r_527 = ((-3)) → ((jv_r nc) ∧ (¬ nc = 60 → wB_LT_517_608 nw nc np ns tu nn sv pz KU1105 r_527 0 g_527) ∧ (nc = 60 → wB_LT_517_608 nw nc np ns tu nn sv pz KU1105 r_527 1 g_527))))) g)))
set_option maxHeartbeats 4000000 in
set_option maxRecDepth 100000 in
theorem LT_517 {p : Program} {l : Launch} {e : Env} {m : MethodId} {below : List Frame} {meth : Method} {c : Code} {s0 : State} {b0 : Addr} {D : va_G} {ids : Nat → ClassId} {L : Nat} {xs : Nat → Int32} (hT : jv_T l s0 b0) (C : jv_C p s0 m #[Value.ref b0] c code RL s0 b0 D ids) (hml : 17 = c.maxLocals) (hr : meth.sig.returnType = ret) (hlk : meth.locks = false) (hX : va_X b0 L xs s0 s0.heap) (hbl : b0 < s0.heap.size) (hL : L ≤ 260) {cb sb : Nat} (hcb : cb ≤ 590000) (hsb : sb ≤ 7200000) {KU628 : Int → Int → Int → Int → Int → Int → Int → Int → Int → Int → jv_Mem → Prop} {KU1105 : Int → Int → Int → Int → Int → Int → Int → Int → Int → jv_Mem → Prop} (hU628 : ∀ (nw nc np ns tu nn vv sv pz so : Int) (g : jv_Mem), KU628 nw nc np ns tu nn vv sv pz so g → jv_V p l e room_1 s0 m #[Value.ref b0] below meth c (cb + 0) (sb + 0) (lw_Z below #[Value.ref b0] s0) s0 D ids none jv_SH g 628 [some (.ref b0), some (.ref (s0.heap.size + (0 : Int).toNat)), some (jv_i nw), some (jv_i nc), some (jv_i np), some (jv_i ns), none, some (jv_i tu), some (jv_i nn), some (jv_i vv), none, some (jv_i sv), some (jv_i pz), some (jv_i so), none, none, none] []) (hU1105 : ∀ (nw nc np ns ii tu nn sv pz : Int) (g : jv_Mem), KU1105 nw nc np ns ii tu nn sv pz g → jv_V p l e room_1 s0 m #[Value.ref b0] below meth c (cb + 4) (sb + 24) (lw_Z below #[Value.ref b0] s0) s0 D ids none jv_SH g 1105 [some (.ref b0), some (.ref (s0.heap.size + (0 : Int).toNat)), some (jv_i nw), some (jv_i nc), some (jv_i np), some (jv_i ns), some (jv_i ii), some (jv_i tu), some (jv_i nn), none, none, some (jv_i sv), some (jv_i pz), none, none, none, none] []) {nw nc np ns tu nn vv wd sv pz so : Int} {g : jv_Mem} (h : wp_LT_517 KU628 KU1105 nw nc np ns tu nn vv wd sv pz so g) : jv_V p l e room_1 s0 m #[Value.ref b0] below meth c (cb + 0) (sb + 0) (lw_Z below #[Value.ref b0] s0) s0 D ids none jv_SH g 517 [some (.ref b0), some (.ref (s0.heap.size + (0 : Int).toNat)), some (jv_i nw), some (jv_i nc), some (jv_i np), some (jv_i ns), none, some (jv_i tu), some (jv_i nn), some (jv_i vv), some (jv_i wd), some (jv_i sv), some (jv_i pz), some (jv_i so), none, none, none] [] := by
  unfold wp_LT_517 at h
  refine jv_iload C dL_law_517 rfl ?_
  refine jv_bipush C dL_law_519 (by decide +kernel) ?_
  obtain ⟨hr_521, h1_521, h2_521⟩ := h
  refine jv_icmp_ge (tgt := 628) C hr_521 ⟨by decide, by decide⟩ dL_law_521 rfl (fun hc_521 => ?_) (fun hc_521 => ?_)
  · replace h := h1_521 hc_521
    refine jv_wd (k := cb + 0) (n := sb + 0) (Nat.ble_eq_true_of_le (by omega)) (Nat.ble_eq_true_of_le (by omega)) ?_
    exact jv_less (ls' := [some (.ref b0), some (.ref (s0.heap.size + (0 : Int).toNat)), some (jv_i nw), some (jv_i nc), some (jv_i np), some (jv_i ns), none, some (jv_i tu), some (jv_i nn), some (jv_i vv), none, some (jv_i sv), some (jv_i pz), some (jv_i so), none, none, none]) ⟨rfl, ⟨rfl, ⟨rfl, ⟨rfl, ⟨rfl, ⟨rfl, ⟨rfl, ⟨rfl, ⟨rfl, ⟨rfl, ⟨rfl, ⟨rfl, trivial⟩⟩⟩⟩⟩⟩⟩⟩⟩⟩⟩⟩ (hU628 _ _ _ _ _ _ _ _ _ _ _ h)
  · replace h := h2_521 hc_521
    refine jv_aload_n C dL_law_524 rfl ?_
    refine jv_iload C dL_law_525 rfl ?_
    refine jv_callSWi C (M_L_clue hT h) kw_L_115 rfl ⟨rfl, rfl⟩ (st := []) rfl rfl ⟨Nat.ble_eq_true_of_le (by show _ ≤ 600104; omega), Nat.ble_eq_true_of_le (by show _ ≤ 7301314; omega)⟩ dL_law_527 (fun r_527 g_527 h => ?_)
    refine jv_istore (ls' := [some (.ref b0), some (.ref (s0.heap.size + (0 : Int).toNat)), some (jv_i nw), some (jv_i nc), some (jv_i np), some (jv_i ns), none, some (jv_i tu), some (jv_i nn), some (jv_i vv), some (jv_i wd), some (jv_i sv), some (jv_i pz), some (jv_i so), some (jv_i r_527), none, none]) C dL_law_530 (Nat.lt_of_lt_of_eq (Nat.le_of_ble_eq_true rfl) hml) rfl ?_
    refine jv_iload C dL_law_532 rfl ?_
    refine jv_bipush C dL_law_534 (by decide +kernel) ?_
    have hJ608 : ∀ (y0_608 : Int) (gj_608 : jv_Mem), wB_LT_517_608 nw nc np ns tu nn sv pz KU1105 r_527 y0_608 gj_608 → jv_V p l e room_1 s0 m #[Value.ref b0] below meth c (cb + 4) (sb + 24) (lw_Z below #[Value.ref b0] s0) s0 D ids none jv_SH gj_608 608 [some (.ref b0), some (.ref (s0.heap.size + (0 : Int).toNat)), some (jv_i nw), some (jv_i nc), some (jv_i np), some (jv_i ns), none, some (jv_i tu), some (jv_i nn), none, none, some (jv_i sv), some (jv_i pz), none, some (jv_i r_527), none, none] [jv_i y0_608] := by
      intro y0_608 gj_608 h
      unfold wB_LT_517_608 at h
      refine jv_istore (ls' := [some (.ref b0), some (.ref (s0.heap.size + (0 : Int).toNat)), some (jv_i nw), some (jv_i nc), some (jv_i np), some (jv_i ns), some (jv_i y0_608), some (jv_i tu), some (jv_i nn), none, none, some (jv_i sv), some (jv_i pz), none, some (jv_i r_527), none, none]) C dL_law_608 (Nat.lt_of_lt_of_eq (Nat.le_of_ble_eq_true rfl) hml) rfl ?_
      refine jv_iload_n C dL_law_610 rfl ?_
      refine jv_iload C dL_law_611 rfl ?_
      refine jv_bipush C dL_law_613 (by decide +kernel) ?_
      have hJ623 : ∀ (y0_623 : Int) (gj_623 : jv_Mem), wB_LT_517_623 nw nc np ns tu nn sv pz KU1105 y0_608 y0_623 gj_623 → jv_V p l e room_1 s0 m #[Value.ref b0] below meth c (cb + 4) (sb + 24) (lw_Z below #[Value.ref b0] s0) s0 D ids none jv_SH gj_623 623 [some (.ref b0), some (.ref (s0.heap.size + (0 : Int).toNat)), some (jv_i nw), none, some (jv_i np), some (jv_i ns), some (jv_i y0_608), some (jv_i tu), some (jv_i nn), none, none, some (jv_i sv), some (jv_i pz), none, none, none, none] [jv_i y0_623, jv_i nc] := by
        intro y0_623 gj_623 h
        unfold wB_LT_517_623 at h
        refine jv_iadd C dL_law_623 ?_
        refine jv_top (fun v3_624 ev3_624 => ?_)
        replace h := h v3_624 ev3_624
        refine jv_istore_n (ls' := [some (.ref b0), some (.ref (s0.heap.size + (0 : Int).toNat)), some (jv_i nw), some (jv_i v3_624), some (jv_i np), some (jv_i ns), some (jv_i y0_608), some (jv_i tu), some (jv_i nn), none, none, some (jv_i sv), some (jv_i pz), none, none, none, none]) C dL_law_624 (Nat.lt_of_lt_of_eq (Nat.le_of_ble_eq_true rfl) hml) rfl ?_
        refine jv_goto (tgt := 1105) C dL_law_625 rfl ?_
        refine jv_wd (k := cb + 4) (n := sb + 24) (Nat.ble_eq_true_of_le (by omega)) (Nat.ble_eq_true_of_le (by omega)) ?_
        exact jv_less (ls' := [some (.ref b0), some (.ref (s0.heap.size + (0 : Int).toNat)), some (jv_i nw), some (jv_i v3_624), some (jv_i np), some (jv_i ns), some (jv_i y0_608), some (jv_i tu), some (jv_i nn), none, none, some (jv_i sv), some (jv_i pz), none, none, none, none]) ⟨rfl, ⟨rfl, ⟨rfl, ⟨rfl, ⟨rfl, ⟨rfl, ⟨rfl, ⟨rfl, ⟨rfl, ⟨rfl, ⟨rfl, trivial⟩⟩⟩⟩⟩⟩⟩⟩⟩⟩⟩ (hU1105 _ _ _ _ _ _ _ _ _ _ h)
      obtain ⟨hr_615, h1_615, h2_615⟩ := h
      refine jv_icmp_ne (tgt := 622) C hr_615 ⟨by decide, by decide⟩ dL_law_615 rfl (fun hc_615 => ?_) (fun hc_615 => ?_)
      · replace h := h1_615 hc_615
        refine jv_const C dL_law_622 ?_
        refine jv_wd (k := cb + 4) (n := sb + 24) (Nat.ble_eq_true_of_le (by omega)) (Nat.ble_eq_true_of_le (by omega)) ?_
        exact jv_less (ls' := [some (.ref b0), some (.ref (s0.heap.size + (0 : Int).toNat)), some (jv_i nw), none, some (jv_i np), some (jv_i ns), some (jv_i y0_608), some (jv_i tu), some (jv_i nn), none, none, some (jv_i sv), some (jv_i pz), none, none, none, none]) ⟨rfl, ⟨rfl, ⟨rfl, ⟨rfl, ⟨rfl, ⟨rfl, ⟨rfl, ⟨rfl, ⟨rfl, ⟨rfl, trivial⟩⟩⟩⟩⟩⟩⟩⟩⟩⟩ (hJ623 _ _ h)
      · replace h := h2_615 hc_615
        refine jv_const C dL_law_618 ?_
        refine jv_goto (tgt := 623) C dL_law_619 rfl ?_
        refine jv_wd (k := cb + 4) (n := sb + 24) (Nat.ble_eq_true_of_le (by omega)) (Nat.ble_eq_true_of_le (by omega)) ?_
        exact jv_less (ls' := [some (.ref b0), some (.ref (s0.heap.size + (0 : Int).toNat)), some (jv_i nw), none, some (jv_i np), some (jv_i ns), some (jv_i y0_608), some (jv_i tu), some (jv_i nn), none, none, some (jv_i sv), some (jv_i pz), none, none, none, none]) ⟨rfl, ⟨rfl, ⟨rfl, ⟨rfl, ⟨rfl, ⟨rfl, ⟨rfl, ⟨rfl, ⟨rfl, ⟨rfl, trivial⟩⟩⟩⟩⟩⟩⟩⟩⟩⟩ (hJ623 _ _ h)
    obtain ⟨hr_536, h1_536, h2_536⟩ := h
    refine jv_icmp_ne (tgt := 553) C hr_536 ⟨by decide, by decide⟩ dL_law_536 rfl (fun hc_536 => ?_) (fun hc_536 => ?_)
    · replace h := h1_536 hc_536
      refine jv_iload C dL_law_553 rfl ?_
      refine jv_iload_n C dL_law_555 rfl ?_
      have hJ607 : ∀ (gj_607 : jv_Mem), wB_LT_517_607 nw nc np ns tu nn sv pz KU1105 r_527 gj_607 → jv_V p l e room_1 s0 m #[Value.ref b0] below meth c (cb + 4) (sb + 24) (lw_Z below #[Value.ref b0] s0) s0 D ids none jv_SH gj_607 607 [some (.ref b0), some (.ref (s0.heap.size + (0 : Int).toNat)), some (jv_i nw), some (jv_i nc), some (jv_i np), some (jv_i ns), none, some (jv_i tu), some (jv_i nn), none, none, some (jv_i sv), some (jv_i pz), none, some (jv_i r_527), none, none] [] := by
        intro gj_607 h
        unfold wB_LT_517_607 at h
        refine jv_const C dL_law_607 ?_
        refine jv_wd (k := cb + 4) (n := sb + 24) (Nat.ble_eq_true_of_le (by omega)) (Nat.ble_eq_true_of_le (by omega)) ?_
        exact jv_less (ls' := [some (.ref b0), some (.ref (s0.heap.size + (0 : Int).toNat)), some (jv_i nw), some (jv_i nc), some (jv_i np), some (jv_i ns), none, some (jv_i tu), some (jv_i nn), none, none, some (jv_i sv), some (jv_i pz), none, some (jv_i r_527), none, none]) ⟨rfl, ⟨rfl, ⟨rfl, ⟨rfl, ⟨rfl, ⟨rfl, ⟨rfl, ⟨rfl, ⟨rfl, ⟨rfl, ⟨rfl, trivial⟩⟩⟩⟩⟩⟩⟩⟩⟩⟩⟩ (hJ608 _ _ h)
      obtain ⟨hr_556, h1_556, h2_556⟩ := h
      refine jv_icmp_ne (tgt := 607) C hr_556.1 hr_556.2 dL_law_556 rfl (fun hc_556 => ?_) (fun hc_556 => ?_)
      · replace h := h1_556 hc_556
        refine jv_wd (k := cb + 4) (n := sb + 24) (Nat.ble_eq_true_of_le (by omega)) (Nat.ble_eq_true_of_le (by omega)) ?_
        exact jv_less (ls' := [some (.ref b0), some (.ref (s0.heap.size + (0 : Int).toNat)), some (jv_i nw), some (jv_i nc), some (jv_i np), some (jv_i ns), none, some (jv_i tu), some (jv_i nn), none, none, some (jv_i sv), some (jv_i pz), none, some (jv_i r_527), none, none]) ⟨rfl, ⟨rfl, ⟨rfl, ⟨rfl, ⟨rfl, ⟨rfl, ⟨rfl, ⟨rfl, ⟨rfl, ⟨rfl, ⟨rfl, trivial⟩⟩⟩⟩⟩⟩⟩⟩⟩⟩⟩ (hJ607 _ h)
      · replace h := h2_556 hc_556
        refine jv_aload_n C dL_law_559 rfl ?_
        refine jv_iload C dL_law_560 rfl ?_
        refine jv_callVi C (M_X8_lastUsed h) kw_L_117 sS_0 rfl rfl ⟨rfl, rfl⟩ (st := []) rfl rfl ⟨Nat.ble_eq_true_of_le (by show _ ≤ 600104; omega), Nat.ble_eq_true_of_le (by show _ ≤ 7301314; omega)⟩ dL_law_562 (fun r_562 g_562 h => ?_)
        refine jv_const C dL_law_565 ?_
        obtain ⟨hr_566, h1_566, h2_566⟩ := h
        refine jv_icmp_ne (tgt := 607) C hr_566 ⟨by decide, by decide⟩ dL_law_566 rfl (fun hc_566 => ?_) (fun hc_566 => ?_)
        · replace h := h1_566 hc_566
          refine jv_wd (k := cb + 4) (n := sb + 24) (Nat.ble_eq_true_of_le (by omega)) (Nat.ble_eq_true_of_le (by omega)) ?_
          exact jv_less (ls' := [some (.ref b0), some (.ref (s0.heap.size + (0 : Int).toNat)), some (jv_i nw), some (jv_i nc), some (jv_i np), some (jv_i ns), none, some (jv_i tu), some (jv_i nn), none, none, some (jv_i sv), some (jv_i pz), none, some (jv_i r_527), none, none]) ⟨rfl, ⟨rfl, ⟨rfl, ⟨rfl, ⟨rfl, ⟨rfl, ⟨rfl, ⟨rfl, ⟨rfl, ⟨rfl, ⟨rfl, trivial⟩⟩⟩⟩⟩⟩⟩⟩⟩⟩⟩ (hJ607 _ h)
        · replace h := h2_566 hc_566
          refine jv_aload_n C dL_law_569 rfl ?_
          refine jv_iload C dL_law_570 rfl ?_
          refine jv_const C dL_law_572 ?_
          refine jv_callSWi C (M_L_edit hT h) kw_L_120 rfl ⟨rfl, rfl⟩ (st := []) rfl rfl ⟨Nat.ble_eq_true_of_le (by show _ ≤ 600104; omega), Nat.ble_eq_true_of_le (by show _ ≤ 7301314; omega)⟩ dL_law_573 (fun r_573 g_573 h => ?_)
          refine jv_const C dL_law_576 ?_
          obtain ⟨hr_577, h1_577, h2_577⟩ := h
          refine jv_icmp_ne (tgt := 607) C hr_577 ⟨by decide, by decide⟩ dL_law_577 rfl (fun hc_577 => ?_) (fun hc_577 => ?_)
          · replace h := h1_577 hc_577
            refine jv_wd (k := cb + 4) (n := sb + 24) (Nat.ble_eq_true_of_le (by omega)) (Nat.ble_eq_true_of_le (by omega)) ?_
            exact jv_less (ls' := [some (.ref b0), some (.ref (s0.heap.size + (0 : Int).toNat)), some (jv_i nw), some (jv_i nc), some (jv_i np), some (jv_i ns), none, some (jv_i tu), some (jv_i nn), none, none, some (jv_i sv), some (jv_i pz), none, some (jv_i r_527), none, none]) ⟨rfl, ⟨rfl, ⟨rfl, ⟨rfl, ⟨rfl, ⟨rfl, ⟨rfl, ⟨rfl, ⟨rfl, ⟨rfl, ⟨rfl, trivial⟩⟩⟩⟩⟩⟩⟩⟩⟩⟩⟩ (hJ607 _ h)
          · replace h := h2_577 hc_577
            refine jv_aload_n C dL_law_580 rfl ?_
            refine jv_iload C dL_law_581 rfl ?_
            refine jv_const C dL_law_583 ?_
            refine jv_callSWi C (M_L_edit hT h) kw_L_120 rfl ⟨rfl, rfl⟩ (st := []) rfl rfl ⟨Nat.ble_eq_true_of_le (by show _ ≤ 600104; omega), Nat.ble_eq_true_of_le (by show _ ≤ 7301314; omega)⟩ dL_law_584 (fun r_584 g_584 h => ?_)
            refine jv_const C dL_law_587 ?_
            obtain ⟨hr_588, h1_588, h2_588⟩ := h
            refine jv_icmp_ne (tgt := 607) C hr_588 ⟨by decide, by decide⟩ dL_law_588 rfl (fun hc_588 => ?_) (fun hc_588 => ?_)
            · replace h := h1_588 hc_588
              refine jv_wd (k := cb + 4) (n := sb + 24) (Nat.ble_eq_true_of_le (by omega)) (Nat.ble_eq_true_of_le (by omega)) ?_
              exact jv_less (ls' := [some (.ref b0), some (.ref (s0.heap.size + (0 : Int).toNat)), some (jv_i nw), some (jv_i nc), some (jv_i np), some (jv_i ns), none, some (jv_i tu), some (jv_i nn), none, none, some (jv_i sv), some (jv_i pz), none, some (jv_i r_527), none, none]) ⟨rfl, ⟨rfl, ⟨rfl, ⟨rfl, ⟨rfl, ⟨rfl, ⟨rfl, ⟨rfl, ⟨rfl, ⟨rfl, ⟨rfl, trivial⟩⟩⟩⟩⟩⟩⟩⟩⟩⟩⟩ (hJ607 _ h)
            · replace h := h2_588 hc_588
              refine jv_aload_n C dL_law_591 rfl ?_
              refine jv_iload C dL_law_592 rfl ?_
              refine jv_const C dL_law_594 ?_
              refine jv_callSWi C (M_L_edit hT h) kw_L_120 rfl ⟨rfl, rfl⟩ (st := []) rfl rfl ⟨Nat.ble_eq_true_of_le (by show _ ≤ 600104; omega), Nat.ble_eq_true_of_le (by show _ ≤ 7301314; omega)⟩ dL_law_595 (fun r_595 g_595 h => ?_)
              refine jv_bipush C dL_law_598 (by decide +kernel) ?_
              obtain ⟨hr_600, h1_600, h2_600⟩ := h
              refine jv_icmp_ne (tgt := 607) C hr_600 ⟨by decide, by decide⟩ dL_law_600 rfl (fun hc_600 => ?_) (fun hc_600 => ?_)
              · replace h := h1_600 hc_600
                refine jv_wd (k := cb + 4) (n := sb + 24) (Nat.ble_eq_true_of_le (by omega)) (Nat.ble_eq_true_of_le (by omega)) ?_
                exact jv_less (ls' := [some (.ref b0), some (.ref (s0.heap.size + (0 : Int).toNat)), some (jv_i nw), some (jv_i nc), some (jv_i np), some (jv_i ns), none, some (jv_i tu), some (jv_i nn), none, none, some (jv_i sv), some (jv_i pz), none, some (jv_i r_527), none, none]) ⟨rfl, ⟨rfl, ⟨rfl, ⟨rfl, ⟨rfl, ⟨rfl, ⟨rfl, ⟨rfl, ⟨rfl, ⟨rfl, ⟨rfl, trivial⟩⟩⟩⟩⟩⟩⟩⟩⟩⟩⟩ (hJ607 _ h)
              · replace h := h2_600 hc_600
                refine jv_const C dL_law_603 ?_
                refine jv_goto (tgt := 608) C dL_law_604 rfl ?_
                refine jv_wd (k := cb + 4) (n := sb + 24) (Nat.ble_eq_true_of_le (by omega)) (Nat.ble_eq_true_of_le (by omega)) ?_
                exact jv_less (ls' := [some (.ref b0), some (.ref (s0.heap.size + (0 : Int).toNat)), some (jv_i nw), some (jv_i nc), some (jv_i np), some (jv_i ns), none, some (jv_i tu), some (jv_i nn), none, none, some (jv_i sv), some (jv_i pz), none, some (jv_i r_527), none, none]) ⟨rfl, ⟨rfl, ⟨rfl, ⟨rfl, ⟨rfl, ⟨rfl, ⟨rfl, ⟨rfl, ⟨rfl, ⟨rfl, ⟨rfl, trivial⟩⟩⟩⟩⟩⟩⟩⟩⟩⟩⟩ (hJ608 _ _ h)
    · replace h := h2_536 hc_536
      refine jv_iload_n C dL_law_539 rfl ?_
      refine jv_bipush C dL_law_540 (by decide +kernel) ?_
      obtain ⟨hr_542, h1_542, h2_542⟩ := h
      refine jv_icmp_ne (tgt := 549) C hr_542 ⟨by decide, by decide⟩ dL_law_542 rfl (fun hc_542 => ?_) (fun hc_542 => ?_)
      · replace h := h1_542 hc_542
        refine jv_const C dL_law_549 ?_
        refine jv_goto (tgt := 608) C dL_law_550 rfl ?_
        refine jv_wd (k := cb + 4) (n := sb + 24) (Nat.ble_eq_true_of_le (by omega)) (Nat.ble_eq_true_of_le (by omega)) ?_
        exact jv_less (ls' := [some (.ref b0), some (.ref (s0.heap.size + (0 : Int).toNat)), some (jv_i nw), some (jv_i nc), some (jv_i np), some (jv_i ns), none, some (jv_i tu), some (jv_i nn), none, none, some (jv_i sv), some (jv_i pz), none, some (jv_i r_527), none, none]) ⟨rfl, ⟨rfl, ⟨rfl, ⟨rfl, ⟨rfl, ⟨rfl, ⟨rfl, ⟨rfl, ⟨rfl, ⟨rfl, ⟨rfl, trivial⟩⟩⟩⟩⟩⟩⟩⟩⟩⟩⟩ (hJ608 _ _ h)
      · replace h := h2_542 hc_542
        refine jv_const C dL_law_545 ?_
        refine jv_goto (tgt := 608) C dL_law_546 rfl ?_
        refine jv_wd (k := cb + 4) (n := sb + 24) (Nat.ble_eq_true_of_le (by omega)) (Nat.ble_eq_true_of_le (by omega)) ?_
        exact jv_less (ls' := [some (.ref b0), some (.ref (s0.heap.size + (0 : Int).toNat)), some (jv_i nw), some (jv_i nc), some (jv_i np), some (jv_i ns), none, some (jv_i tu), some (jv_i nn), none, none, some (jv_i sv), some (jv_i pz), none, some (jv_i r_527), none, none]) ⟨rfl, ⟨rfl, ⟨rfl, ⟨rfl, ⟨rfl, ⟨rfl, ⟨rfl, ⟨rfl, ⟨rfl, ⟨rfl, ⟨rfl, trivial⟩⟩⟩⟩⟩⟩⟩⟩⟩⟩⟩ (hJ608 _ _ h)
