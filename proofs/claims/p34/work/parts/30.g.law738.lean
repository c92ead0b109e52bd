def wB_LT_738_813 (nw : Int) (nc : Int) (np : Int) (tu : Int) (nn : Int) (sv : Int) (pz : Int) (KU1105 : Int → Int → Int → Int → Int → Int → Int → Int → Int → jv_Mem → Prop) (v5_789 : Int) (y0_813 : Int) (gj_813 : jv_Mem) : Prop :=
  KU1105 nw nc np v5_789 y0_813 tu nn sv pz gj_813
def wB_LT_738_812 (nw : Int) (nc : Int) (np : Int) (tu : Int) (nn : Int) (sv : Int) (pz : Int) (KU1105 : Int → Int → Int → Int → Int → Int → Int → Int → Int → jv_Mem → Prop) (v5_789 : Int) (gj_812 : jv_Mem) : Prop :=
  wB_LT_738_813 nw nc np tu nn sv pz KU1105 v5_789 0 gj_812
def wB_LT_738_787 (nw : Int) (nc : Int) (np : Int) (ns : Int) (tu : Int) (nn : Int) (sv : Int) (pz : Int) (KU1105 : Int → Int → Int → Int → Int → Int → Int → Int → Int → jv_Mem → Prop) (y0_787 : Int) (gj_787 : jv_Mem) : Prop :=
  (∀ v5_789 : Int, v5_789 = ns + 1 → ((jv_r y0_787) ∧ (y0_787 = 0 → wB_LT_738_812 nw nc np tu nn sv pz KU1105 v5_789 gj_787) ∧ (¬ y0_787 = 0 → (wp_X8_streak (v5_789 - 1) (fun (r_802 : Int) (g_802 : jv_Mem) => ((jv_r r_802) ∧ (¬ r_802 = 0 → wB_LT_738_812 nw nc np tu nn sv pz KU1105 v5_789 g_802) ∧ (r_802 = 0 → wB_LT_738_813 nw nc np tu nn sv pz KU1105 v5_789 1 g_802))) gj_787))))
def wp_LT_738 (KU818 : Int → Int → Int → Int → Int → Int → Int → Int → Int → Int → jv_Mem → Prop) (KU1105 : Int → Int → Int → Int → Int → Int → Int → Int → Int → jv_Mem → Prop) (nw nc np ns tu nn vv sv pz so : Int) (g : jv_Mem) : Prop :=
  ((jv_r so) ∧ (16 ≤ so → KU818 nw nc np ns tu nn vv sv pz so g) ∧ (so < 16 → ((jv_r ns) ∧ (6 ≤ ns → KU818 nw nc np ns tu nn vv sv pz so g) ∧ (ns < 6 → (wp_L_low vv 27 (fun (r_757 : Int) (g_757 : jv_Mem) => (wp_L_low (jv_shr vv 9) 300 (fun (r_771 : Int) (g_771 : jv_Mem) => (wp_X8_addSolver (r_757 - 12) r_771 (fun (r_774 : Int) (g_774 : jv_Mem) => (∃ gG_774 : jv_Mem, jv_sm g_774 gG_774 ∧ ((jv_r r_774 ∧ jv_r ns) ∧ (¬ r_774 = ns → wB_LT_738_787 nw nc np ns tu nn sv pz KU1105 0 gG_774) ∧ (r_774 = ns → wB_LT_738_787 nw nc np ns tu nn sv pz KU1105 1 gG_774)))) g_771)) g_757)) g)))))
set_option maxHeartbeats 4000000 in
set_option maxRecDepth 100000 in
theorem LT_738 {p : Program} {l : Launch} {e : Env} {m : MethodId} {below : List Frame} {meth : Method} {c : Code} {s0 : State} {b0 : Addr} {D : va_G} {ids : Nat → ClassId} {L : Nat} {xs : Nat → Int32} (hT : jv_T l s0 b0) (C : jv_C p s0 m #[Value.ref b0] c code RL s0 b0 D ids) (hml : 17 = c.maxLocals) (hr : meth.sig.returnType = ret) (hlk : meth.locks = false) (hX : va_X b0 L xs s0 s0.heap) (hbl : b0 < s0.heap.size) (hL : L ≤ 260) {cb sb : Nat} (hcb : cb ≤ 590000) (hsb : sb ≤ 7200000) {KU818 : Int → Int → Int → Int → Int → Int → Int → Int → Int → Int → jv_Mem → Prop} {KU1105 : Int → Int → Int → Int → Int → Int → Int → Int → Int → jv_Mem → Prop} (hU818 : ∀ (nw nc np ns tu nn vv sv pz so : Int) (g : jv_Mem), KU818 nw nc np ns tu nn vv sv pz so g → jv_V p l e room_1 s0 m #[Value.ref b0] below meth c (cb + 0) (sb + 0) (lw_Z below #[Value.ref b0] s0) s0 D ids none jv_SH g 818 [some (.ref b0), some (.ref (s0.heap.size + (0 : Int).toNat)), some (jv_i nw), some (jv_i nc), some (jv_i np), some (jv_i ns), none, some (jv_i tu), some (jv_i nn), some (jv_i vv), none, some (jv_i sv), some (jv_i pz), some (jv_i so), none, none, none] []) (hU1105 : ∀ (nw nc np ns ii tu nn sv pz : Int) (g : jv_Mem), KU1105 nw nc np ns ii tu nn sv pz g → jv_V p l e room_1 s0 m #[Value.ref b0] below meth c (cb + 4) (sb + 24) (lw_Z below #[Value.ref b0] s0) s0 D ids none jv_SH g 1105 [some (.ref b0), some (.ref (s0.heap.size + (0 : Int).toNat)), some (jv_i nw), some (jv_i nc), some (jv_i np), some (jv_i ns), some (jv_i ii), some (jv_i tu), some (jv_i nn), none, none, some (jv_i sv), some (jv_i pz), none, none, none, none] []) {nw nc np ns tu nn vv sv pz so : Int} {g : jv_Mem} (h : wp_LT_738 KU818 KU1105 nw nc np ns tu nn vv sv pz so g) : jv_V p l e room_1 s0 m #[Value.ref b0] below meth c (cb + 0) (sb + 0) (lw_Z below #[Value.ref b0] s0) s0 D ids none jv_SH g 738 [some (.ref b0), some (.ref (s0.heap.size + (0 : Int).toNat)), some (jv_i nw), some (jv_i nc), some (jv_i np), some (jv_i ns), none, some (jv_i tu), some (jv_i nn), some (jv_i vv), none, some (jv_i sv), some (jv_i pz), some (jv_i so), none, none, none] [] := by
  unfold wp_LT_738 at h
  refine jv_iload C dL_law_738 rfl ?_
  refine jv_bipush C dL_law_740 (by decide +kernel) ?_
  obtain ⟨hr_742, h1_742, h2_742⟩ := h
  refine jv_icmp_ge (tgt := 818) C hr_742 ⟨by decide, by decide⟩ dL_law_742 rfl (fun hc_742 => ?_) (fun hc_742 => ?_)
  · replace h := h1_742 hc_742
    refine jv_wd (k := cb + 0) (n := sb + 0) (Nat.ble_eq_true_of_le (by omega)) (Nat.ble_eq_true_of_le (by omega)) ?_
    exact jv_less (ls' := [some (.ref b0), some (.ref (s0.heap.size + (0 : Int).toNat)), some (jv_i nw), some (jv_i nc), some (jv_i np), some (jv_i ns), none, some (jv_i tu), some (jv_i nn), some (jv_i vv), none, some (jv_i sv), some (jv_i pz), some (jv_i so), none, none, none]) ⟨rfl, ⟨rfl, ⟨rfl, ⟨rfl, ⟨rfl, ⟨rfl, ⟨rfl, ⟨rfl, ⟨rfl, ⟨rfl, ⟨rfl, ⟨rfl, trivial⟩⟩⟩⟩⟩⟩⟩⟩⟩⟩⟩⟩ (hU818 _ _ _ _ _ _ _ _ _ _ _ h)
  · replace h := h2_742 hc_742
    refine jv_iload C dL_law_745 rfl ?_
    refine jv_bipush C dL_law_747 (by decide +kernel) ?_
    obtain ⟨hr_749, h1_749, h2_749⟩ := h
    refine jv_icmp_ge (tgt := 818) C hr_749 ⟨by decide, by decide⟩ dL_law_749 rfl (fun hc_749 => ?_) (fun hc_749 => ?_)
    · replace h := h1_749 hc_749
      refine jv_wd (k := cb + 0) (n := sb + 0) (Nat.ble_eq_true_of_le (by omega)) (Nat.ble_eq_true_of_le (by omega)) ?_
      exact jv_less (ls' := [some (.ref b0), some (.ref (s0.heap.size + (0 : Int).toNat)), some (jv_i nw), some (jv_i nc), some (jv_i np), some (jv_i ns), none, some (jv_i tu), some (jv_i nn), some (jv_i vv), none, some (jv_i sv), some (jv_i pz), some (jv_i so), none, none, none]) ⟨rfl, ⟨rfl, ⟨rfl, ⟨rfl, ⟨rfl, ⟨rfl, ⟨rfl, ⟨rfl, ⟨rfl, ⟨rfl, ⟨rfl, ⟨rfl, trivial⟩⟩⟩⟩⟩⟩⟩⟩⟩⟩⟩⟩ (hU818 _ _ _ _ _ _ _ _ _ _ _ h)
    · replace h := h2_749 hc_749
      refine jv_aload_n C dL_law_752 rfl ?_
      refine jv_iload C dL_law_753 rfl ?_
      refine jv_bipush C dL_law_755 (by decide +kernel) ?_
      refine jv_callSi C (M_L_low h) kw_L_52 rfl ⟨rfl, rfl⟩ (st := [.ref (s0.heap.size + (0 : Int).toNat)]) rfl rfl ⟨Nat.ble_eq_true_of_le (by show _ ≤ 600104; omega), Nat.ble_eq_true_of_le (by show _ ≤ 7301314; omega)⟩ dL_law_757 (fun r_757 g_757 h => ?_)
      refine jv_bipush C dL_law_760 (by decide +kernel) ?_
      refine jv_isub C dL_law_762 ?_
      refine jv_iload C dL_law_763 rfl ?_
      refine jv_bipush C dL_law_765 (by decide +kernel) ?_
      refine jv_ishr C dL_law_767 ?_
      refine jv_sipush C dL_law_768 (by decide +kernel) ?_
      refine jv_callSi C (M_L_low h) kw_L_52 rfl ⟨rfl, rfl⟩ (st := [jv_i (r_757 - 12), .ref (s0.heap.size + (0 : Int).toNat)]) rfl rfl ⟨Nat.ble_eq_true_of_le (by show _ ≤ 600104; omega), Nat.ble_eq_true_of_le (by show _ ≤ 7301314; omega)⟩ dL_law_771 (fun r_771 g_771 h => ?_)
      refine jv_callVi C (M_X8_addSolver h) kw_L_135 sS_0 rfl rfl ⟨rfl, rfl⟩ (st := []) rfl rfl ⟨Nat.ble_eq_true_of_le (by show _ ≤ 600104; omega), Nat.ble_eq_true_of_le (by show _ ≤ 7301314; omega)⟩ dL_law_774 (fun r_774 g_774 h => ?_)
      obtain ⟨gG_774, hG_774, h⟩ := h
      refine jv_gh hG_774 ?_
      refine jv_iload C dL_law_777 rfl ?_
      have hJ787 : ∀ (y0_787 : Int) (gj_787 : jv_Mem), wB_LT_738_787 nw nc np ns tu nn sv pz KU1105 y0_787 gj_787 → jv_V p l e room_1 s0 m #[Value.ref b0] below meth c (cb + 0) (sb + 0) (lw_Z below #[Value.ref b0] s0) s0 D ids none jv_SH gj_787 787 [some (.ref b0), some (.ref (s0.heap.size + (0 : Int).toNat)), some (jv_i nw), some (jv_i nc), some (jv_i np), some (jv_i ns), none, some (jv_i tu), some (jv_i nn), none, none, some (jv_i sv), some (jv_i pz), none, none, none, none] [jv_i y0_787] := by
        intro y0_787 gj_787 h
        unfold wB_LT_738_787 at h
        refine jv_istore (ls' := [some (.ref b0), some (.ref (s0.heap.size + (0 : Int).toNat)), some (jv_i nw), some (jv_i nc), some (jv_i np), some (jv_i ns), some (jv_i y0_787), some (jv_i tu), some (jv_i nn), none, none, some (jv_i sv), some (jv_i pz), none, none, none, none]) C dL_law_787 (Nat.lt_of_lt_of_eq (Nat.le_of_ble_eq_true rfl) hml) rfl ?_
        refine jv_iincn C dL_law_789 (Nat.lt_of_lt_of_eq (Nat.le_of_ble_eq_true rfl) hml) rfl (fun v5_789 ev5_789 => ?_)
        replace h := h v5_789 ev5_789
        refine jv_lset (ls' := [some (.ref b0), some (.ref (s0.heap.size + (0 : Int).toNat)), some (jv_i nw), some (jv_i nc), some (jv_i np), some (jv_i v5_789), some (jv_i y0_787), some (jv_i tu), some (jv_i nn), none, none, some (jv_i sv), some (jv_i pz), none, none, none, none]) rfl ?_
        refine jv_iload C dL_law_792 rfl ?_
        have hJ813 : ∀ (y0_813 : Int) (gj_813 : jv_Mem), wB_LT_738_813 nw nc np tu nn sv pz KU1105 v5_789 y0_813 gj_813 → jv_V p l e room_1 s0 m #[Value.ref b0] below meth c (cb + 0) (sb + 0) (lw_Z below #[Value.ref b0] s0) s0 D ids none jv_SH gj_813 813 [some (.ref b0), some (.ref (s0.heap.size + (0 : Int).toNat)), some (jv_i nw), some (jv_i nc), some (jv_i np), some (jv_i v5_789), none, some (jv_i tu), some (jv_i nn), none, none, some (jv_i sv), some (jv_i pz), none, none, none, none] [jv_i y0_813] := by
          intro y0_813 gj_813 h
          unfold wB_LT_738_813 at h
          refine jv_istore (ls' := [some (.ref b0), some (.ref (s0.heap.size + (0 : Int).toNat)), some (jv_i nw), some (jv_i nc), some (jv_i np), some (jv_i v5_789), some (jv_i y0_813), some (jv_i tu), some (jv_i nn), none, none, some (jv_i sv), some (jv_i pz), none, none, none, none]) C dL_law_813 (Nat.lt_of_lt_of_eq (Nat.le_of_ble_eq_true rfl) hml) rfl ?_
          refine jv_goto (tgt := 1105) C dL_law_815 rfl ?_
          refine jv_wd (k := cb + 4) (n := sb + 24) (Nat.ble_eq_true_of_le (by omega)) (Nat.ble_eq_true_of_le (by omega)) ?_
          exact jv_less (ls' := [some (.ref b0), some (.ref (s0.heap.size + (0 : Int).toNat)), some (jv_i nw), some (jv_i nc), some (jv_i np), some (jv_i v5_789), some (jv_i y0_813), some (jv_i tu), some (jv_i nn), none, none, some (jv_i sv), some (jv_i pz), none, none, none, none]) ⟨rfl, ⟨rfl, ⟨rfl, ⟨rfl, ⟨rfl, ⟨rfl, ⟨rfl, ⟨rfl, ⟨rfl, ⟨rfl, ⟨rfl, trivial⟩⟩⟩⟩⟩⟩⟩⟩⟩⟩⟩ (hU1105 _ _ _ _ _ _ _ _ _ _ h)
        have hJ812 : ∀ (gj_812 : jv_Mem), wB_LT_738_812 nw nc np tu nn sv pz KU1105 v5_789 gj_812 → jv_V p l e room_1 s0 m #[Value.ref b0] below meth c (cb + 0) (sb + 0) (lw_Z below #[Value.ref b0] s0) s0 D ids none jv_SH gj_812 812 [some (.ref b0), some (.ref (s0.heap.size + (0 : Int).toNat)), some (jv_i nw), some (jv_i nc), some (jv_i np), some (jv_i v5_789), none, some (jv_i tu), some (jv_i nn), none, none, some (jv_i sv), some (jv_i pz), none, none, none, none] [] := by
          intro gj_812 h
          unfold wB_LT_738_812 at h
          refine jv_const C dL_law_812 ?_
          refine jv_wd (k := cb + 0) (n := sb + 0) (Nat.ble_eq_true_of_le (by omega)) (Nat.ble_eq_true_of_le (by omega)) ?_
          exact jv_less (ls' := [some (.ref b0), some (.ref (s0.heap.size + (0 : Int).toNat)), some (jv_i nw), some (jv_i nc), some (jv_i np), some (jv_i v5_789), none, some (jv_i tu), some (jv_i nn), none, none, some (jv_i sv), some (jv_i pz), none, none, none, none]) ⟨rfl, ⟨rfl, ⟨rfl, ⟨rfl, ⟨rfl, ⟨rfl, ⟨rfl, ⟨rfl, ⟨rfl, ⟨rfl, trivial⟩⟩⟩⟩⟩⟩⟩⟩⟩⟩ (hJ813 _ _ h)
        obtain ⟨hr_794, h1_794, h2_794⟩ := h
        refine jv_if_eq (tgt := 812) C hr_794 dL_law_794 rfl (fun hc_794 => ?_) (fun hc_794 => ?_)
        · replace h := h1_794 hc_794
          refine jv_wd (k := cb + 0) (n := sb + 0) (Nat.ble_eq_true_of_le (by omega)) (Nat.ble_eq_true_of_le (by omega)) ?_
          exact jv_less (ls' := [some (.ref b0), some (.ref (s0.heap.size + (0 : Int).toNat)), some (jv_i nw), some (jv_i nc), some (jv_i np), some (jv_i v5_789), none, some (jv_i tu), some (jv_i nn), none, none, some (jv_i sv), some (jv_i pz), none, none, none, none]) ⟨rfl, ⟨rfl, ⟨rfl, ⟨rfl, ⟨rfl, ⟨rfl, ⟨rfl, ⟨rfl, ⟨rfl, ⟨rfl, trivial⟩⟩⟩⟩⟩⟩⟩⟩⟩⟩ (hJ812 _ h)
        · replace h := h2_794 hc_794
          refine jv_aload_n C dL_law_797 rfl ?_
          refine jv_iload C dL_law_798 rfl ?_
          refine jv_const C dL_law_800 ?_
          refine jv_isub C dL_law_801 ?_
          refine jv_callVi C (M_X8_streak h) kw_L_60 sS_0 rfl rfl ⟨rfl, rfl⟩ (st := []) rfl rfl ⟨Nat.ble_eq_true_of_le (by show _ ≤ 600104; omega), Nat.ble_eq_true_of_le (by show _ ≤ 7301314; omega)⟩ dL_law_802 (fun r_802 g_802 h => ?_)
          obtain ⟨hr_805, h1_805, h2_805⟩ := h
          refine jv_if_ne (tgt := 812) C hr_805 dL_law_805 rfl (fun hc_805 => ?_) (fun hc_805 => ?_)
          · replace h := h1_805 hc_805
            refine jv_wd (k := cb + 0) (n := sb + 0) (Nat.ble_eq_true_of_le (by omega)) (Nat.ble_eq_true_of_le (by omega)) ?_
            exact jv_less (ls' := [some (.ref b0), some (.ref (s0.heap.size + (0 : Int).toNat)), some (jv_i nw), some (jv_i nc), some (jv_i np), some (jv_i v5_789), none, some (jv_i tu), some (jv_i nn), none, none, some (jv_i sv), some (jv_i pz), none, none, none, none]) ⟨rfl, ⟨rfl, ⟨rfl, ⟨rfl, ⟨rfl, ⟨rfl, ⟨rfl, ⟨rfl, ⟨rfl, ⟨rfl, trivial⟩⟩⟩⟩⟩⟩⟩⟩⟩⟩ (hJ812 _ h)
          · replace h := h2_805 hc_805
            refine jv_const C dL_law_808 ?_
            refine jv_goto (tgt := 813) C dL_law_809 rfl ?_
            refine jv_wd (k := cb + 0) (n := sb + 0) (Nat.ble_eq_true_of_le (by omega)) (Nat.ble_eq_true_of_le (by omega)) ?_
            exact jv_less (ls' := [some (.ref b0), some (.ref (s0.heap.size + (0 : Int).toNat)), some (jv_i nw), some (jv_i nc), some (jv_i np), some (jv_i v5_789), none, some (jv_i tu), some (jv_i nn), none, none, some (jv_i sv), some (jv_i pz), none, none, none, none]) ⟨rfl, ⟨rfl, ⟨rfl, ⟨rfl, ⟨rfl, ⟨rfl, ⟨rfl, ⟨rfl, ⟨rfl, ⟨rfl, trivial⟩⟩⟩⟩⟩⟩⟩⟩⟩⟩ (hJ813 _ _ h)
      obtain ⟨hr_779, h1_779, h2_779⟩ := h
      refine jv_icmp_ne (tgt := 786) C hr_779.1 hr_779.2 dL_law_779 rfl (fun hc_779 => ?_) (fun hc_779 => ?_)
      · replace h := h1_779 hc_779
        refine jv_const C dL_law_786 ?_
        refine jv_wd (k := cb + 0) (n := sb + 0) (Nat.ble_eq_true_of_le (by omega)) (Nat.ble_eq_true_of_le (by omega)) ?_
        exact jv_less (ls' := [some (.ref b0), some (.ref (s0.heap.size + (0 : Int).toNat)), some (jv_i nw), some (jv_i nc), some (jv_i np), some (jv_i ns), none, some (jv_i tu), some (jv_i nn), none, none, some (jv_i sv), some (jv_i pz), none, none, none, none]) ⟨rfl, ⟨rfl, ⟨rfl, ⟨rfl, ⟨rfl, ⟨rfl, ⟨rfl, ⟨rfl, ⟨rfl, ⟨rfl, trivial⟩⟩⟩⟩⟩⟩⟩⟩⟩⟩ (hJ787 _ _ h)
      · replace h := h2_779 hc_779
        refine jv_const C dL_law_782 ?_
        refine jv_goto (tgt := 787) C dL_law_783 rfl ?_
        refine jv_wd (k := cb + 0) (n := sb + 0) (Nat.ble_eq_true_of_le (by omega)) (Nat.ble_eq_true_of_le (by omega)) ?_
        exact jv_less (ls' := [some (.ref b0), some (.ref (s0.heap.size + (0 : Int).toNat)), some (jv_i nw), some (jv_i nc), some (jv_i np), some (jv_i ns), none, some (jv_i tu), some (jv_i nn), none, none, some (jv_i sv), some (jv_i pz), none, none, none, none]) ⟨rfl, ⟨rfl, ⟨rfl, ⟨rfl, ⟨rfl, ⟨rfl, ⟨rfl, ⟨rfl, ⟨rfl, ⟨rfl, trivial⟩⟩⟩⟩⟩⟩⟩⟩⟩⟩ (hJ787 _ _ h)
