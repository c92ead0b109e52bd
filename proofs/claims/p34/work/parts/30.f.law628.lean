def wB_LT_628_732 (nw : Int) (nc : Int) (np : Int) (ns : Int) (tu : Int) (nn : Int) (sv : Int) (pz : Int) (KU1105 : Int → Int → Int → Int → Int → Int → Int → Int → Int → jv_Mem → Prop) (y0_716 : Int) (y0_732 : Int) (gj_732 : jv_Mem) : Prop :=
  (∀ v4_733 : Int, v4_733 = np + y0_732 → KU1105 nw nc v4_733 ns y0_716 tu nn sv pz gj_732)
def wB_LT_628_716 (nw : Int) (nc : Int) (np : Int) (ns : Int) (tu : Int) (nn : Int) (sv : Int) (pz : Int) (KU1105 : Int → Int → Int → Int → Int → Int → Int → Int → Int → jv_Mem → Prop) (r_636 : Int) (y0_716 : Int) (gj_716 : jv_Mem) : Prop :=
  ((jv_r r_636) ∧ (¬ r_636 = ((-3)) → wB_LT_628_732 nw nc np ns tu nn sv pz KU1105 y0_716 1 gj_716) ∧ (r_636 = ((-3)) → wB_LT_628_732 nw nc np ns tu nn sv pz KU1105 y0_716 0 gj_716))
def wB_LT_628_711 (nw : Int) (nc : Int) (np : Int) (ns : Int) (tu : Int) (nn : Int) (sv : Int) (pz : Int) (KU1105 : Int → Int → Int → Int → Int → Int → Int → Int → Int → jv_Mem → Prop) (r_636 : Int) (gj_711 : jv_Mem) : Prop :=
  wB_LT_628_716 nw nc np ns tu nn sv pz KU1105 r_636 1 gj_711
def wB_LT_628_715 (nw : Int) (nc : Int) (np : Int) (ns : Int) (tu : Int) (nn : Int) (sv : Int) (pz : Int) (KU1105 : Int → Int → Int → Int → Int → Int → Int → Int → Int → jv_Mem → Prop) (r_636 : Int) (gj_715 : jv_Mem) : Prop :=
  wB_LT_628_716 nw nc np ns tu nn sv pz KU1105 r_636 0 gj_715
def wp_LT_628 (KU738 : Int → Int → Int → Int → Int → Int → Int → Int → Int → Int → jv_Mem → Prop) (KU1105 : Int → Int → Int → Int → Int → Int → Int → Int → Int → jv_Mem → Prop) (nw nc np ns tu nn vv sv pz so : Int) (g : jv_Mem) : Prop :=
  ((jv_r so) ∧ (15 ≤ so → KU738 nw nc np ns tu nn vv sv pz so g) ∧ (so < 15 → (wp_L_publish (fun (r_636 : Int) (g_636 : jv_Mem) => ((jv_r r_636) ∧ (r_636 = ((-3)) → wB_LT_628_711 nw nc np ns tu nn sv pz KU1105 r_636 g_636) ∧ (¬ r_636 = ((-3)) → ((jv_r r_636 ∧ jv_r np) ∧ (¬ r_636 = np → wB_LT_628_715 nw nc np ns tu nn sv pz KU1105 r_636 g_636) ∧ (r_636 = np → (wp_X8_open r_636 (fun (r_658 : Int) (g_658 : jv_Mem) => ((jv_r r_658) ∧ (¬ r_658 = 0 → wB_LT_628_715 nw nc np ns tu nn sv pz KU1105 r_636 g_658) ∧ (r_658 = 0 → (wp_X8_clueOf r_636 5 (fun (r_669 : Int) (g_669 : jv_Mem) => (wp_X8_lastUsed r_669 (fun (r_672 : Int) (g_672 : jv_Mem) => (wp_X8_now (fun (r_676 : Int) (g_676 : jv_Mem) => ((jv_r r_672 ∧ jv_r (jv_div r_676 24)) ∧ (¬ r_672 = (jv_div r_676 24) → wB_LT_628_715 nw nc np ns tu nn sv pz KU1105 r_636 g_676) ∧ (r_672 = (jv_div r_676 24) → (wp_X8_clueOf r_636 0 (fun (r_689 : Int) (g_689 : jv_Mem) => (wp_X8_clueOf r_636 5 (fun (r_696 : Int) (g_696 : jv_Mem) => ((jv_r r_689 ∧ jv_r r_696) ∧ (r_689 = r_696 → wB_LT_628_715 nw nc np ns tu nn sv pz KU1105 r_636 g_696) ∧ (¬ r_689 = r_696 → (wp_L_publish (fun (r_703 : Int) (g_703 : jv_Mem) => ((jv_r r_703) ∧ (¬ r_703 = ((-3)) → wB_LT_628_715 nw nc np ns tu nn sv pz KU1105 r_636 g_703) ∧ (r_703 = ((-3)) → wB_LT_628_711 nw nc np ns tu nn sv pz KU1105 r_636 g_703))) g_696)))) g_689)) g_676)))) g_672)) g_669)) g_658)))) g_636)))))) g)))
set_option maxHeartbeats 4000000 in
set_option maxRecDepth 100000 in
theorem LT_628 {p : Program} {l : Launch} {e : Env} {m : MethodId} {below : List Frame} {meth : Method} {c : Code} {s0 : State} {b0 : Addr} {D : va_G} {ids : Nat → ClassId} {L : Nat} {xs : Nat → Int32} (hT : jv_T l s0 b0) (C : jv_C p s0 m #[Value.ref b0] c code RL s0 b0 D ids) (hml : 17 = c.maxLocals) (hr : meth.sig.returnType = ret) (hlk : meth.locks = false) (hX : va_X b0 L xs s0 s0.heap) (hbl : b0 < s0.heap.size) (hL : L ≤ 260) {cb sb : Nat} (hcb : cb ≤ 590000) (hsb : sb ≤ 7200000) {KU738 : Int → Int → Int → Int → Int → Int → Int → Int → Int → Int → jv_Mem → Prop} {KU1105 : Int → Int → Int → Int → Int → Int → Int → Int → Int → jv_Mem → Prop} (hU738 : ∀ (nw nc np ns tu nn vv sv pz so : Int) (g : jv_Mem), KU738 nw nc np ns tu nn vv sv pz so g → jv_V p l e room_1 s0 m #[Value.ref b0] below meth c (cb + 0) (sb + 0) (lw_Z below #[Value.ref b0] s0) s0 D ids none jv_SH g 738 [some (.ref b0), some (.ref (s0.heap.size + (0 : Int).toNat)), some (jv_i nw), some (jv_i nc), some (jv_i np), some (jv_i ns), none, some (jv_i tu), some (jv_i nn), some (jv_i vv), none, some (jv_i sv), some (jv_i pz), some (jv_i so), none, none, none] []) (hU1105 : ∀ (nw nc np ns ii tu nn sv pz : Int) (g : jv_Mem), KU1105 nw nc np ns ii tu nn sv pz g → jv_V p l e room_1 s0 m #[Value.ref b0] below meth c (cb + 4) (sb + 24) (lw_Z below #[Value.ref b0] s0) s0 D ids none jv_SH g 1105 [some (.ref b0), some (.ref (s0.heap.size + (0 : Int).toNat)), some (jv_i nw), some (jv_i nc), some (jv_i np), some (jv_i ns), some (jv_i ii), some (jv_i tu), some (jv_i nn), none, none, some (jv_i sv), some (jv_i pz), none, none, none, none] []) {nw nc np ns tu nn vv sv pz so : Int} {g : jv_Mem} (h : wp_LT_628 KU738 KU1105 nw nc np ns tu nn vv sv pz so g) : jv_V p l e room_1 s0 m #[Value.ref b0] below meth c (cb + 0) (sb + 0) (lw_Z below #[Value.ref b0] s0) s0 D ids none jv_SH g 628 [some (.ref b0), some (.ref (s0.heap.size + (0 : Int).toNat)), some (jv_i nw), some (jv_i nc), some (jv_i np), some (jv_i ns), none, some (jv_i tu), some (jv_i nn), some (jv_i vv), none, some (jv_i sv), some (jv_i pz), some (jv_i so), none, none, none] [] := by
  unfold wp_LT_628 at h
  refine jv_iload C dL_law_628 rfl ?_
  refine jv_bipush C dL_law_630 (by decide +kernel) ?_
  obtain ⟨hr_632, h1_632, h2_632⟩ := h
  refine jv_icmp_ge (tgt := 738) C hr_632 ⟨by decide, by decide⟩ dL_law_632 rfl (fun hc_632 => ?_) (fun hc_632 => ?_)
  · replace h := h1_632 hc_632
    refine jv_wd (k := cb + 0) (n := sb + 0) (Nat.ble_eq_true_of_le (by omega)) (Nat.ble_eq_true_of_le (by omega)) ?_
    exact jv_less (ls' := [some (.ref b0), some (.ref (s0.heap.size + (0 : Int).toNat)), some (jv_i nw), some (jv_i nc), some (jv_i np), some (jv_i ns), none, some (jv_i tu), some (jv_i nn), some (jv_i vv), none, some (jv_i sv), some (jv_i pz), some (jv_i so), none, none, none]) ⟨rfl, ⟨rfl, ⟨rfl, ⟨rfl, ⟨rfl, ⟨rfl, ⟨rfl, ⟨rfl, ⟨rfl, ⟨rfl, ⟨rfl, ⟨rfl, trivial⟩⟩⟩⟩⟩⟩⟩⟩⟩⟩⟩⟩ (hU738 _ _ _ _ _ _ _ _ _ _ _ h)
  · replace h := h2_632 hc_632
    refine jv_aload_n C dL_law_635 rfl ?_
    refine jv_callSWi C (M_L_publish hT h) kw_L_123 rfl ⟨rfl, rfl⟩ (st := []) rfl rfl ⟨Nat.ble_eq_true_of_le (by show _ ≤ 600104; omega), Nat.ble_eq_true_of_le (by show _ ≤ 7301314; omega)⟩ dL_law_636 (fun r_636 g_636 h => ?_)
    refine jv_istore (ls' := [some (.ref b0), some (.ref (s0.heap.size + (0 : Int).toNat)), some (jv_i nw), some (jv_i nc), some (jv_i np), some (jv_i ns), none, some (jv_i tu), some (jv_i nn), some (jv_i vv), none, some (jv_i sv), some (jv_i pz), some (jv_i so), some (jv_i r_636), none, none]) C dL_law_639 (Nat.lt_of_lt_of_eq (Nat.le_of_ble_eq_true rfl) hml) rfl ?_
    refine jv_iload C dL_law_641 rfl ?_
    refine jv_bipush C dL_law_643 (by decide +kernel) ?_
    have hJ716 : ∀ (y0_716 : Int) (gj_716 : jv_Mem), wB_LT_628_716 nw nc np ns tu nn sv pz KU1105 r_636 y0_716 gj_716 → jv_V p l e room_1 s0 m #[Value.ref b0] below meth c (cb + 2) (sb + 12) (lw_Z below #[Value.ref b0] s0) s0 D ids none jv_SH gj_716 716 [some (.ref b0), some (.ref (s0.heap.size + (0 : Int).toNat)), some (jv_i nw), some (jv_i nc), some (jv_i np), some (jv_i ns), none, some (jv_i tu), some (jv_i nn), none, none, some (jv_i sv), some (jv_i pz), none, some (jv_i r_636), none, none] [jv_i y0_716] := by
      intro y0_716 gj_716 h
      unfold wB_LT_628_716 at h
      refine jv_istore (ls' := [some (.ref b0), some (.ref (s0.heap.size + (0 : Int).toNat)), some (jv_i nw), some (jv_i nc), some (jv_i np), some (jv_i ns), some (jv_i y0_716), some (jv_i tu), some (jv_i nn), none, none, some (jv_i sv), some (jv_i pz), none, some (jv_i r_636), none, none]) C dL_law_716 (Nat.lt_of_lt_of_eq (Nat.le_of_ble_eq_true rfl) hml) rfl ?_
      refine jv_iload C dL_law_718 rfl ?_
      refine jv_iload C dL_law_720 rfl ?_
      refine jv_bipush C dL_law_722 (by decide +kernel) ?_
      have hJ732 : ∀ (y0_732 : Int) (gj_732 : jv_Mem), wB_LT_628_732 nw nc np ns tu nn sv pz KU1105 y0_716 y0_732 gj_732 → jv_V p l e room_1 s0 m #[Value.ref b0] below meth c (cb + 2) (sb + 12) (lw_Z below #[Value.ref b0] s0) s0 D ids none jv_SH gj_732 732 [some (.ref b0), some (.ref (s0.heap.size + (0 : Int).toNat)), some (jv_i nw), some (jv_i nc), none, some (jv_i ns), some (jv_i y0_716), some (jv_i tu), some (jv_i nn), none, none, some (jv_i sv), some (jv_i pz), none, none, none, none] [jv_i y0_732, jv_i np] := by
        intro y0_732 gj_732 h
        unfold wB_LT_628_732 at h
        refine jv_iadd C dL_law_732 ?_
        refine jv_top (fun v4_733 ev4_733 => ?_)
        replace h := h v4_733 ev4_733
        refine jv_istore (ls' := [some (.ref b0), some (.ref (s0.heap.size + (0 : Int).toNat)), some (jv_i nw), some (jv_i nc), some (jv_i v4_733), some (jv_i ns), some (jv_i y0_716), some (jv_i tu), some (jv_i nn), none, none, some (jv_i sv), some (jv_i pz), none, none, none, none]) C dL_law_733 (Nat.lt_of_lt_of_eq (Nat.le_of_ble_eq_true rfl) hml) rfl ?_
        refine jv_goto (tgt := 1105) C dL_law_735 rfl ?_
        refine jv_wd (k := cb + 4) (n := sb + 24) (Nat.ble_eq_true_of_le (by omega)) (Nat.ble_eq_true_of_le (by omega)) ?_
        exact jv_less (ls' := [some (.ref b0), some (.ref (s0.heap.size + (0 : Int).toNat)), some (jv_i nw), some (jv_i nc), some (jv_i v4_733), some (jv_i ns), some (jv_i y0_716), some (jv_i tu), some (jv_i nn), none, none, some (jv_i sv), some (jv_i pz), none, none, none, none]) ⟨rfl, ⟨rfl, ⟨rfl, ⟨rfl, ⟨rfl, ⟨rfl, ⟨rfl, ⟨rfl, ⟨rfl, ⟨rfl, ⟨rfl, trivial⟩⟩⟩⟩⟩⟩⟩⟩⟩⟩⟩ (hU1105 _ _ _ _ _ _ _ _ _ _ h)
      obtain ⟨hr_724, h1_724, h2_724⟩ := h
      refine jv_icmp_ne (tgt := 731) C hr_724 ⟨by decide, by decide⟩ dL_law_724 rfl (fun hc_724 => ?_) (fun hc_724 => ?_)
      · replace h := h1_724 hc_724
        refine jv_const C dL_law_731 ?_
        refine jv_wd (k := cb + 2) (n := sb + 12) (Nat.ble_eq_true_of_le (by omega)) (Nat.ble_eq_true_of_le (by omega)) ?_
        exact jv_less (ls' := [some (.ref b0), some (.ref (s0.heap.size + (0 : Int).toNat)), some (jv_i nw), some (jv_i nc), none, some (jv_i ns), some (jv_i y0_716), some (jv_i tu), some (jv_i nn), none, none, some (jv_i sv), some (jv_i pz), none, none, none, none]) ⟨rfl, ⟨rfl, ⟨rfl, ⟨rfl, ⟨rfl, ⟨rfl, ⟨rfl, ⟨rfl, ⟨rfl, ⟨rfl, trivial⟩⟩⟩⟩⟩⟩⟩⟩⟩⟩ (hJ732 _ _ h)
      · replace h := h2_724 hc_724
        refine jv_const C dL_law_727 ?_
        refine jv_goto (tgt := 732) C dL_law_728 rfl ?_
        refine jv_wd (k := cb + 2) (n := sb + 12) (Nat.ble_eq_true_of_le (by omega)) (Nat.ble_eq_true_of_le (by omega)) ?_
        exact jv_less (ls' := [some (.ref b0), some (.ref (s0.heap.size + (0 : Int).toNat)), some (jv_i nw), some (jv_i nc), none, some (jv_i ns), some (jv_i y0_716), some (jv_i tu), some (jv_i nn), none, none, some (jv_i sv), some (jv_i pz), none, none, none, none]) ⟨rfl, ⟨rfl, ⟨rfl, ⟨rfl, ⟨rfl, ⟨rfl, ⟨rfl, ⟨rfl, ⟨rfl, ⟨rfl, trivial⟩⟩⟩⟩⟩⟩⟩⟩⟩⟩ (hJ732 _ _ h)
    have hJ711 : ∀ (gj_711 : jv_Mem), wB_LT_628_711 nw nc np ns tu nn sv pz KU1105 r_636 gj_711 → jv_V p l e room_1 s0 m #[Value.ref b0] below meth c (cb + 2) (sb + 12) (lw_Z below #[Value.ref b0] s0) s0 D ids none jv_SH gj_711 711 [some (.ref b0), some (.ref (s0.heap.size + (0 : Int).toNat)), some (jv_i nw), some (jv_i nc), some (jv_i np), some (jv_i ns), none, some (jv_i tu), some (jv_i nn), none, none, some (jv_i sv), some (jv_i pz), none, some (jv_i r_636), none, none] [] := by
      intro gj_711 h
      unfold wB_LT_628_711 at h
      refine jv_const C dL_law_711 ?_
      refine jv_goto (tgt := 716) C dL_law_712 rfl ?_
      refine jv_wd (k := cb + 2) (n := sb + 12) (Nat.ble_eq_true_of_le (by omega)) (Nat.ble_eq_true_of_le (by omega)) ?_
      exact jv_less (ls' := [some (.ref b0), some (.ref (s0.heap.size + (0 : Int).toNat)), some (jv_i nw), some (jv_i nc), some (jv_i np), some (jv_i ns), none, some (jv_i tu), some (jv_i nn), none, none, some (jv_i sv), some (jv_i pz), none, some (jv_i r_636), none, none]) ⟨rfl, ⟨rfl, ⟨rfl, ⟨rfl, ⟨rfl, ⟨rfl, ⟨rfl, ⟨rfl, ⟨rfl, ⟨rfl, ⟨rfl, trivial⟩⟩⟩⟩⟩⟩⟩⟩⟩⟩⟩ (hJ716 _ _ h)
    obtain ⟨hr_645, h1_645, h2_645⟩ := h
    refine jv_icmp_eq (tgt := 711) C hr_645 ⟨by decide, by decide⟩ dL_law_645 rfl (fun hc_645 => ?_) (fun hc_645 => ?_)
    · replace h := h1_645 hc_645
      refine jv_wd (k := cb + 2) (n := sb + 12) (Nat.ble_eq_true_of_le (by omega)) (Nat.ble_eq_true_of_le (by omega)) ?_
      exact jv_less (ls' := [some (.ref b0), some (.ref (s0.heap.size + (0 : Int).toNat)), some (jv_i nw), some (jv_i nc), some (jv_i np), some (jv_i ns), none, some (jv_i tu), some (jv_i nn), none, none, some (jv_i sv), some (jv_i pz), none, some (jv_i r_636), none, none]) ⟨rfl, ⟨rfl, ⟨rfl, ⟨rfl, ⟨rfl, ⟨rfl, ⟨rfl, ⟨rfl, ⟨rfl, ⟨rfl, ⟨rfl, trivial⟩⟩⟩⟩⟩⟩⟩⟩⟩⟩⟩ (hJ711 _ h)
    · replace h := h2_645 hc_645
      refine jv_iload C dL_law_648 rfl ?_
      refine jv_iload C dL_law_650 rfl ?_
      have hJ715 : ∀ (gj_715 : jv_Mem), wB_LT_628_715 nw nc np ns tu nn sv pz KU1105 r_636 gj_715 → jv_V p l e room_1 s0 m #[Value.ref b0] below meth c (cb + 2) (sb + 12) (lw_Z below #[Value.ref b0] s0) s0 D ids none jv_SH gj_715 715 [some (.ref b0), some (.ref (s0.heap.size + (0 : Int).toNat)), some (jv_i nw), some (jv_i nc), some (jv_i np), some (jv_i ns), none, some (jv_i tu), some (jv_i nn), none, none, some (jv_i sv), some (jv_i pz), none, some (jv_i r_636), none, none] [] := by
        intro gj_715 h
        unfold wB_LT_628_715 at h
        refine jv_const C dL_law_715 ?_
        refine jv_wd (k := cb + 2) (n := sb + 12) (Nat.ble_eq_true_of_le (by omega)) (Nat.ble_eq_true_of_le (by omega)) ?_
        exact jv_less (ls' := [some (.ref b0), some (.ref (s0.heap.size + (0 : Int).toNat)), some (jv_i nw), some (jv_i nc), some (jv_i np), some (jv_i ns), none, some (jv_i tu), some (jv_i nn), none, none, some (jv_i sv), some (jv_i pz), none, some (jv_i r_636), none, none]) ⟨rfl, ⟨rfl, ⟨rfl, ⟨rfl, ⟨rfl, ⟨rfl, ⟨rfl, ⟨rfl, ⟨rfl, ⟨rfl, ⟨rfl, trivial⟩⟩⟩⟩⟩⟩⟩⟩⟩⟩⟩ (hJ716 _ _ h)
      obtain ⟨hr_652, h1_652, h2_652⟩ := h
      refine jv_icmp_ne (tgt := 715) C hr_652.1 hr_652.2 dL_law_652 rfl (fun hc_652 => ?_) (fun hc_652 => ?_)
      · replace h := h1_652 hc_652
        refine jv_wd (k := cb + 2) (n := sb + 12) (Nat.ble_eq_true_of_le (by omega)) (Nat.ble_eq_true_of_le (by omega)) ?_
        exact jv_less (ls' := [some (.ref b0), some (.ref (s0.heap.size + (0 : Int).toNat)), some (jv_i nw), some (jv_i nc), some (jv_i np), some (jv_i ns), none, some (jv_i tu), some (jv_i nn), none, none, some (jv_i sv), some (jv_i pz), none, some (jv_i r_636), none, none]) ⟨rfl, ⟨rfl, ⟨rfl, ⟨rfl, ⟨rfl, ⟨rfl, ⟨rfl, ⟨rfl, ⟨rfl, ⟨rfl, ⟨rfl, trivial⟩⟩⟩⟩⟩⟩⟩⟩⟩⟩⟩ (hJ715 _ h)
      · replace h := h2_652 hc_652
        refine jv_aload_n C dL_law_655 rfl ?_
        refine jv_iload C dL_law_656 rfl ?_
        refine jv_callVi C (M_X8_open h) kw_L_126 sS_0 rfl rfl ⟨rfl, rfl⟩ (st := []) rfl rfl ⟨Nat.ble_eq_true_of_le (by show _ ≤ 600104; omega), Nat.ble_eq_true_of_le (by show _ ≤ 7301314; omega)⟩ dL_law_658 (fun r_658 g_658 h => ?_)
        obtain ⟨hr_661, h1_661, h2_661⟩ := h
        refine jv_if_ne (tgt := 715) C hr_661 dL_law_661 rfl (fun hc_661 => ?_) (fun hc_661 => ?_)
        · replace h := h1_661 hc_661
          refine jv_wd (k := cb + 2) (n := sb + 12) (Nat.ble_eq_true_of_le (by omega)) (Nat.ble_eq_true_of_le (by omega)) ?_
          exact jv_less (ls' := [some (.ref b0), some (.ref (s0.heap.size + (0 : Int).toNat)), some (jv_i nw), some (jv_i nc), some (jv_i np), some (jv_i ns), none, some (jv_i tu), some (jv_i nn), none, none, some (jv_i sv), some (jv_i pz), none, some (jv_i r_636), none, none]) ⟨rfl, ⟨rfl, ⟨rfl, ⟨rfl, ⟨rfl, ⟨rfl, ⟨rfl, ⟨rfl, ⟨rfl, ⟨rfl, ⟨rfl, trivial⟩⟩⟩⟩⟩⟩⟩⟩⟩⟩⟩ (hJ715 _ h)
        · replace h := h2_661 hc_661
          refine jv_aload_n C dL_law_664 rfl ?_
          refine jv_aload_n C dL_law_665 rfl ?_
          refine jv_iload C dL_law_666 rfl ?_
          refine jv_const C dL_law_668 ?_
          refine jv_callVi C (M_X8_clueOf h) kw_L_129 sS_0 rfl rfl ⟨rfl, rfl⟩ (st := [.ref (s0.heap.size + (0 : Int).toNat)]) rfl rfl ⟨Nat.ble_eq_true_of_le (by show _ ≤ 600104; omega), Nat.ble_eq_true_of_le (by show _ ≤ 7301314; omega)⟩ dL_law_669 (fun r_669 g_669 h => ?_)
          refine jv_callVi C (M_X8_lastUsed h) kw_L_117 sS_0 rfl rfl ⟨rfl, rfl⟩ (st := []) rfl rfl ⟨Nat.ble_eq_true_of_le (by show _ ≤ 600104; omega), Nat.ble_eq_true_of_le (by show _ ≤ 7301314; omega)⟩ dL_law_672 (fun r_672 g_672 h => ?_)
          refine jv_aload_n C dL_law_675 rfl ?_
          refine jv_callVi C (M_X8_now h) kw_L_132 sS_0 rfl rfl ⟨rfl, rfl⟩ (st := [jv_i r_672]) rfl rfl ⟨Nat.ble_eq_true_of_le (by show _ ≤ 600104; omega), Nat.ble_eq_true_of_le (by show _ ≤ 7301314; omega)⟩ dL_law_676 (fun r_676 g_676 h => ?_)
          refine jv_bipush C dL_law_679 (by decide +kernel) ?_
          refine jv_idiv C (by decide +kernel) dL_law_681 ?_
          obtain ⟨hr_682, h1_682, h2_682⟩ := h
          refine jv_icmp_ne (tgt := 715) C hr_682.1 hr_682.2 dL_law_682 rfl (fun hc_682 => ?_) (fun hc_682 => ?_)
          · replace h := h1_682 hc_682
            refine jv_wd (k := cb + 2) (n := sb + 12) (Nat.ble_eq_true_of_le (by omega)) (Nat.ble_eq_true_of_le (by omega)) ?_
            exact jv_less (ls' := [some (.ref b0), some (.ref (s0.heap.size + (0 : Int).toNat)), some (jv_i nw), some (jv_i nc), some (jv_i np), some (jv_i ns), none, some (jv_i tu), some (jv_i nn), none, none, some (jv_i sv), some (jv_i pz), none, some (jv_i r_636), none, none]) ⟨rfl, ⟨rfl, ⟨rfl, ⟨rfl, ⟨rfl, ⟨rfl, ⟨rfl, ⟨rfl, ⟨rfl, ⟨rfl, ⟨rfl, trivial⟩⟩⟩⟩⟩⟩⟩⟩⟩⟩⟩ (hJ715 _ h)
          · replace h := h2_682 hc_682
            refine jv_aload_n C dL_law_685 rfl ?_
            refine jv_iload C dL_law_686 rfl ?_
            refine jv_const C dL_law_688 ?_
            refine jv_callVi C (M_X8_clueOf h) kw_L_129 sS_0 rfl rfl ⟨rfl, rfl⟩ (st := []) rfl rfl ⟨Nat.ble_eq_true_of_le (by show _ ≤ 600104; omega), Nat.ble_eq_true_of_le (by show _ ≤ 7301314; omega)⟩ dL_law_689 (fun r_689 g_689 h => ?_)
            refine jv_aload_n C dL_law_692 rfl ?_
            refine jv_iload C dL_law_693 rfl ?_
            refine jv_const C dL_law_695 ?_
            refine jv_callVi C (M_X8_clueOf h) kw_L_129 sS_0 rfl rfl ⟨rfl, rfl⟩ (st := [jv_i r_689]) rfl rfl ⟨Nat.ble_eq_true_of_le (by show _ ≤ 600104; omega), Nat.ble_eq_true_of_le (by show _ ≤ 7301314; omega)⟩ dL_law_696 (fun r_696 g_696 h => ?_)
            obtain ⟨hr_699, h1_699, h2_699⟩ := h
            refine jv_icmp_eq (tgt := 715) C hr_699.1 hr_699.2 dL_law_699 rfl (fun hc_699 => ?_) (fun hc_699 => ?_)
            · replace h := h1_699 hc_699
              refine jv_wd (k := cb + 2) (n := sb + 12) (Nat.ble_eq_true_of_le (by omega)) (Nat.ble_eq_true_of_le (by omega)) ?_
              exact jv_less (ls' := [some (.ref b0), some (.ref (s0.heap.size + (0 : Int).toNat)), some (jv_i nw), some (jv_i nc), some (jv_i np), some (jv_i ns), none, some (jv_i tu), some (jv_i nn), none, none, some (jv_i sv), some (jv_i pz), none, some (jv_i r_636), none, none]) ⟨rfl, ⟨rfl, ⟨rfl, ⟨rfl, ⟨rfl, ⟨rfl, ⟨rfl, ⟨rfl, ⟨rfl, ⟨rfl, ⟨rfl, trivial⟩⟩⟩⟩⟩⟩⟩⟩⟩⟩⟩ (hJ715 _ h)
            · replace h := h2_699 hc_699
              refine jv_aload_n C dL_law_702 rfl ?_
              refine jv_callSWi C (M_L_publish hT h) kw_L_123 rfl ⟨rfl, rfl⟩ (st := []) rfl rfl ⟨Nat.ble_eq_true_of_le (by show _ ≤ 600104; omega), Nat.ble_eq_true_of_le (by show _ ≤ 7301314; omega)⟩ dL_law_703 (fun r_703 g_703 h => ?_)
              refine jv_bipush C dL_law_706 (by decide +kernel) ?_
              obtain ⟨hr_708, h1_708, h2_708⟩ := h
              refine jv_icmp_ne (tgt := 715) C hr_708 ⟨by decide, by decide⟩ dL_law_708 rfl (fun hc_708 => ?_) (fun hc_708 => ?_)
              · replace h := h1_708 hc_708
                refine jv_wd (k := cb + 2) (n := sb + 12) (Nat.ble_eq_true_of_le (by omega)) (Nat.ble_eq_true_of_le (by omega)) ?_
                exact jv_less (ls' := [some (.ref b0), some (.ref (s0.heap.size + (0 : Int).toNat)), some (jv_i nw), some (jv_i nc), some (jv_i np), some (jv_i ns), none, some (jv_i tu), some (jv_i nn), none, none, some (jv_i sv), some (jv_i pz), none, some (jv_i r_636), none, none]) ⟨rfl, ⟨rfl, ⟨rfl, ⟨rfl, ⟨rfl, ⟨rfl, ⟨rfl, ⟨rfl, ⟨rfl, ⟨rfl, ⟨rfl, trivial⟩⟩⟩⟩⟩⟩⟩⟩⟩⟩⟩ (hJ715 _ h)
              · replace h := h2_708 hc_708
                refine jv_wd (k := cb + 2) (n := sb + 12) (Nat.ble_eq_true_of_le (by omega)) (Nat.ble_eq_true_of_le (by omega)) ?_
                exact jv_less (ls' := [some (.ref b0), some (.ref (s0.heap.size + (0 : Int).toNat)), some (jv_i nw), some (jv_i nc), some (jv_i np), some (jv_i ns), none, some (jv_i tu), some (jv_i nn), none, none, some (jv_i sv), some (jv_i pz), none, some (jv_i r_636), none, none]) ⟨rfl, ⟨rfl, ⟨rfl, ⟨rfl, ⟨rfl, ⟨rfl, ⟨rfl, ⟨rfl, ⟨rfl, ⟨rfl, ⟨rfl, trivial⟩⟩⟩⟩⟩⟩⟩⟩⟩⟩⟩ (hJ711 _ h)
