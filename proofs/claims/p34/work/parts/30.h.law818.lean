def wB_LT_818_891 (nw : Int) (nc : Int) (np : Int) (ns : Int) (tu : Int) (nn : Int) (sv : Int) (pz : Int) (KU1105 : Int → Int → Int → Int → Int → Int → Int → Int → Int → jv_Mem → Prop) (y0_891 : Int) (gj_891 : jv_Mem) : Prop :=
  KU1105 nw nc np ns y0_891 tu nn sv pz gj_891
def wB_LT_818_886 (nw : Int) (nc : Int) (np : Int) (ns : Int) (tu : Int) (nn : Int) (sv : Int) (pz : Int) (KU1105 : Int → Int → Int → Int → Int → Int → Int → Int → Int → jv_Mem → Prop) (gj_886 : jv_Mem) : Prop :=
  wB_LT_818_891 nw nc np ns tu nn sv pz KU1105 1 gj_886
def wB_LT_818_856 (nw : Int) (nc : Int) (np : Int) (ns : Int) (tu : Int) (nn : Int) (sv : Int) (pz : Int) (KU1105 : Int → Int → Int → Int → Int → Int → Int → Int → Int → jv_Mem → Prop) (y0_856 : Int) (gj_856 : jv_Mem) : Prop :=
  (wp_X8_now (fun (r_859 : Int) (g_859 : jv_Mem) => ((jv_r r_859) ∧ (29000 < r_859 → wB_LT_818_886 nw nc np ns tu nn sv pz KU1105 g_859) ∧ (r_859 ≤ 29000 → (wp_X8_pass y0_856 (fun (r_875 : Int) (g_875 : jv_Mem) => (∃ gG_875 : jv_Mem, jv_sm g_875 gG_875 ∧ ((jv_r r_875 ∧ jv_r (r_859 + y0_856)) ∧ (¬ r_875 = (r_859 + y0_856) → wB_LT_818_891 nw nc np ns tu nn sv pz KU1105 0 gG_875) ∧ (r_875 = (r_859 + y0_856) → wB_LT_818_886 nw nc np ns tu nn sv pz KU1105 gG_875)))) g_859)))) gj_856)
def wp_LT_818 (KU896 : Int → Int → Int → Int → Int → Int → Int → Int → Int → Int → jv_Mem → Prop) (KU1105 : Int → Int → Int → Int → Int → Int → Int → Int → Int → jv_Mem → Prop) (nw nc np ns tu nn vv sv pz so : Int) (g : jv_Mem) : Prop :=
  ((jv_r so) ∧ (18 ≤ so → KU896 nw nc np ns tu nn vv sv pz so g) ∧ (so < 18 → (wp_L_low vv 2 (fun (r_828 : Int) (g_828 : jv_Mem) => ((jv_r r_828) ∧ (¬ r_828 = 0 → (wp_L_low vv 400 (fun (r_852 : Int) (g_852 : jv_Mem) => wB_LT_818_856 nw nc np ns tu nn sv pz KU1105 (1 + r_852) g_852) g_828)) ∧ (r_828 = 0 → (wp_L_low vv 60 (fun (r_839 : Int) (g_839 : jv_Mem) => wB_LT_818_856 nw nc np ns tu nn sv pz KU1105 (1 + r_839) g_839) g_828)))) g)))
set_option maxHeartbeats 4000000 in
set_option maxRecDepth 100000 in
theorem LT_818 {p : Program} {l : Launch} {e : Env} {m : MethodId} {below : List Frame} {meth : Method} {c : Code} {s0 : State} {b0 : Addr} {D : va_G} {ids : Nat → ClassId} {L : Nat} {xs : Nat → Int32} (hT : jv_T l s0 b0) (C : jv_C p s0 m #[Value.ref b0] c code RL s0 b0 D ids) (hml : 17 = c.maxLocals) (hr : meth.sig.returnType = ret) (hlk : meth.locks = false) (hX : va_X b0 L xs s0 s0.heap) (hbl : b0 < s0.heap.size) (hL : L ≤ 260) {cb sb : Nat} (hcb : cb ≤ 590000) (hsb : sb ≤ 7200000) {KU896 : Int → Int → Int → Int → Int → Int → Int → Int → Int → Int → jv_Mem → Prop} {KU1105 : Int → Int → Int → Int → Int → Int → Int → Int → Int → jv_Mem → Prop} (hU896 : ∀ (nw nc np ns tu nn vv sv pz so : Int) (g : jv_Mem), KU896 nw nc np ns tu nn vv sv pz so g → jv_V p l e room_1 s0 m #[Value.ref b0] below meth c (cb + 0) (sb + 0) (lw_Z below #[Value.ref b0] s0) s0 D ids none jv_SH g 896 [some (.ref b0), some (.ref (s0.heap.size + (0 : Int).toNat)), some (jv_i nw), some (jv_i nc), some (jv_i np), some (jv_i ns), none, some (jv_i tu), some (jv_i nn), some (jv_i vv), none, some (jv_i sv), some (jv_i pz), some (jv_i so), none, none, none] []) (hU1105 : ∀ (nw nc np ns ii tu nn sv pz : Int) (g : jv_Mem), KU1105 nw nc np ns ii tu nn sv pz g → jv_V p l e room_1 s0 m #[Value.ref b0] below meth c (cb + 4) (sb + 24) (lw_Z below #[Value.ref b0] s0) s0 D ids none jv_SH g 1105 [some (.ref b0), some (.ref (s0.heap.size + (0 : Int).toNat)), some (jv_i nw), some (jv_i nc), some (jv_i np), some (jv_i ns), some (jv_i ii), some (jv_i tu), some (jv_i nn), none, none, some (jv_i sv), some (jv_i pz), none, none, none, none] []) {nw nc np ns tu nn vv sv pz so : Int} {g : jv_Mem} (h : wp_LT_818 KU896 KU1105 nw nc np ns tu nn vv sv pz so g) : jv_V p l e room_1 s0 m #[Value.ref b0] below meth c (cb + 0) (sb + 0) (lw_Z below #[Value.ref b0] s0) s0 D ids none jv_SH g 818 [some (.ref b0), some (.ref (s0.heap.size + (0 : Int).toNat)), some (jv_i nw), some (jv_i nc), some (jv_i np), some (jv_i ns), none, some (jv_i tu), some (jv_i nn), some (jv_i vv), none, some (jv_i sv), some (jv_i pz), some (jv_i so), none, none, none] [] := by
  unfold wp_LT_818 at h
  refine jv_iload C dL_law_818 rfl ?_
  refine jv_bipush C dL_law_820 (by decide +kernel) ?_
  obtain ⟨hr_822, h1_822, h2_822⟩ := h
  refine jv_icmp_ge (tgt := 896) C hr_822 ⟨by decide, by decide⟩ dL_law_822 rfl (fun hc_822 => ?_) (fun hc_822 => ?_)
  · replace h := h1_822 hc_822
    refine jv_wd (k := cb + 0) (n := sb + 0) (Nat.ble_eq_true_of_le (by omega)) (Nat.ble_eq_true_of_le (by omega)) ?_
    exact jv_less (ls' := [some (.ref b0), some (.ref (s0.heap.size + (0 : Int).toNat)), some (jv_i nw), some (jv_i nc), some (jv_i np), some (jv_i ns), none, some (jv_i tu), some (jv_i nn), some (jv_i vv), none, some (jv_i sv), some (jv_i pz), some (jv_i so), none, none, none]) ⟨rfl, ⟨rfl, ⟨rfl, ⟨rfl, ⟨rfl, ⟨rfl, ⟨rfl, ⟨rfl, ⟨rfl, ⟨rfl, ⟨rfl, ⟨rfl, trivial⟩⟩⟩⟩⟩⟩⟩⟩⟩⟩⟩⟩ (hU896 _ _ _ _ _ _ _ _ _ _ _ h)
  · replace h := h2_822 hc_822
    refine jv_iload C dL_law_825 rfl ?_
    refine jv_const C dL_law_827 ?_
    refine jv_callSi C (M_L_low h) kw_L_52 rfl ⟨rfl, rfl⟩ (st := []) rfl rfl ⟨Nat.ble_eq_true_of_le (by show _ ≤ 600104; omega), Nat.ble_eq_true_of_le (by show _ ≤ 7301314; omega)⟩ dL_law_828 (fun r_828 g_828 h => ?_)
    have hJ856 : ∀ (y0_856 : Int) (gj_856 : jv_Mem), wB_LT_818_856 nw nc np ns tu nn sv pz KU1105 y0_856 gj_856 → jv_V p l e room_1 s0 m #[Value.ref b0] below meth c (cb + 0) (sb + 0) (lw_Z below #[Value.ref b0] s0) s0 D ids none jv_SH gj_856 856 [some (.ref b0), some (.ref (s0.heap.size + (0 : Int).toNat)), some (jv_i nw), some (jv_i nc), some (jv_i np), some (jv_i ns), none, some (jv_i tu), some (jv_i nn), none, none, some (jv_i sv), some (jv_i pz), none, none, none, none] [jv_i y0_856] := by
      intro y0_856 gj_856 h
      unfold wB_LT_818_856 at h
      refine jv_istore (ls' := [some (.ref b0), some (.ref (s0.heap.size + (0 : Int).toNat)), some (jv_i nw), some (jv_i nc), some (jv_i np), some (jv_i ns), none, some (jv_i tu), some (jv_i nn), none, none, some (jv_i sv), some (jv_i pz), none, some (jv_i y0_856), none, none]) C dL_law_856 (Nat.lt_of_lt_of_eq (Nat.le_of_ble_eq_true rfl) hml) rfl ?_
      refine jv_aload_n C dL_law_858 rfl ?_
      refine jv_callVi C (M_X8_now h) kw_L_132 sS_0 rfl rfl ⟨rfl, rfl⟩ (st := []) rfl rfl ⟨Nat.ble_eq_true_of_le (by show _ ≤ 600104; omega), Nat.ble_eq_true_of_le (by show _ ≤ 7301314; omega)⟩ dL_law_859 (fun r_859 g_859 h => ?_)
      refine jv_istore (ls' := [some (.ref b0), some (.ref (s0.heap.size + (0 : Int).toNat)), some (jv_i nw), some (jv_i nc), some (jv_i np), some (jv_i ns), none, some (jv_i tu), some (jv_i nn), none, none, some (jv_i sv), some (jv_i pz), none, some (jv_i y0_856), some (jv_i r_859), none]) C dL_law_862 (Nat.lt_of_lt_of_eq (Nat.le_of_ble_eq_true rfl) hml) rfl ?_
      refine jv_iload C dL_law_864 rfl ?_
      refine jv_sipush C dL_law_866 (by decide +kernel) ?_
      have hJ891 : ∀ (y0_891 : Int) (gj_891 : jv_Mem), wB_LT_818_891 nw nc np ns tu nn sv pz KU1105 y0_891 gj_891 → jv_V p l e room_1 s0 m #[Value.ref b0] below meth c (cb + 0) (sb + 0) (lw_Z below #[Value.ref b0] s0) s0 D ids none jv_SH gj_891 891 [some (.ref b0), some (.ref (s0.heap.size + (0 : Int).toNat)), some (jv_i nw), some (jv_i nc), some (jv_i np), some (jv_i ns), none, some (jv_i tu), some (jv_i nn), none, none, some (jv_i sv), some (jv_i pz), none, none, none, none] [jv_i y0_891] := by
        intro y0_891 gj_891 h
        unfold wB_LT_818_891 at h
        refine jv_istore (ls' := [some (.ref b0), some (.ref (s0.heap.size + (0 : Int).toNat)), some (jv_i nw), some (jv_i nc), some (jv_i np), some (jv_i ns), some (jv_i y0_891), some (jv_i tu), some (jv_i nn), none, none, some (jv_i sv), some (jv_i pz), none, none, none, none]) C dL_law_891 (Nat.lt_of_lt_of_eq (Nat.le_of_ble_eq_true rfl) hml) rfl ?_
        refine jv_goto (tgt := 1105) C dL_law_893 rfl ?_
        refine jv_wd (k := cb + 4) (n := sb + 24) (Nat.ble_eq_true_of_le (by omega)) (Nat.ble_eq_true_of_le (by omega)) ?_
        exact jv_less (ls' := [some (.ref b0), some (.ref (s0.heap.size + (0 : Int).toNat)), some (jv_i nw), some (jv_i nc), some (jv_i np), some (jv_i ns), some (jv_i y0_891), some (jv_i tu), some (jv_i nn), none, none, some (jv_i sv), some (jv_i pz), none, none, none, none]) ⟨rfl, ⟨rfl, ⟨rfl, ⟨rfl, ⟨rfl, ⟨rfl, ⟨rfl, ⟨rfl, ⟨rfl, ⟨rfl, ⟨rfl, trivial⟩⟩⟩⟩⟩⟩⟩⟩⟩⟩⟩ (hU1105 _ _ _ _ _ _ _ _ _ _ h)
      have hJ886 : ∀ (gj_886 : jv_Mem), wB_LT_818_886 nw nc np ns tu nn sv pz KU1105 gj_886 → jv_V p l e room_1 s0 m #[Value.ref b0] below meth c (cb + 0) (sb + 0) (lw_Z below #[Value.ref b0] s0) s0 D ids none jv_SH gj_886 886 [some (.ref b0), some (.ref (s0.heap.size + (0 : Int).toNat)), some (jv_i nw), some (jv_i nc), some (jv_i np), some (jv_i ns), none, some (jv_i tu), some (jv_i nn), none, none, some (jv_i sv), some (jv_i pz), none, none, none, none] [] := by
        intro gj_886 h
        unfold wB_LT_818_886 at h
        refine jv_const C dL_law_886 ?_
        refine jv_goto (tgt := 891) C dL_law_887 rfl ?_
        refine jv_wd (k := cb + 0) (n := sb + 0) (Nat.ble_eq_true_of_le (by omega)) (Nat.ble_eq_true_of_le (by omega)) ?_
        exact jv_less (ls' := [some (.ref b0), some (.ref (s0.heap.size + (0 : Int).toNat)), some (jv_i nw), some (jv_i nc), some (jv_i np), some (jv_i ns), none, some (jv_i tu), some (jv_i nn), none, none, some (jv_i sv), some (jv_i pz), none, none, none, none]) ⟨rfl, ⟨rfl, ⟨rfl, ⟨rfl, ⟨rfl, ⟨rfl, ⟨rfl, ⟨rfl, ⟨rfl, ⟨rfl, trivial⟩⟩⟩⟩⟩⟩⟩⟩⟩⟩ (hJ891 _ _ h)
      obtain ⟨hr_869, h1_869, h2_869⟩ := h
      refine jv_icmp_gt (tgt := 886) C hr_869 ⟨by decide, by decide⟩ dL_law_869 rfl (fun hc_869 => ?_) (fun hc_869 => ?_)
      · replace h := h1_869 hc_869
        refine jv_wd (k := cb + 0) (n := sb + 0) (Nat.ble_eq_true_of_le (by omega)) (Nat.ble_eq_true_of_le (by omega)) ?_
        exact jv_less (ls' := [some (.ref b0), some (.ref (s0.heap.size + (0 : Int).toNat)), some (jv_i nw), some (jv_i nc), some (jv_i np), some (jv_i ns), none, some (jv_i tu), some (jv_i nn), none, none, some (jv_i sv), some (jv_i pz), none, none, none, none]) ⟨rfl, ⟨rfl, ⟨rfl, ⟨rfl, ⟨rfl, ⟨rfl, ⟨rfl, ⟨rfl, ⟨rfl, ⟨rfl, trivial⟩⟩⟩⟩⟩⟩⟩⟩⟩⟩ (hJ886 _ h)
      · replace h := h2_869 hc_869
        refine jv_aload_n C dL_law_872 rfl ?_
        refine jv_iload C dL_law_873 rfl ?_
        refine jv_callVi C (M_X8_pass h) kw_L_138 sS_0 rfl rfl ⟨rfl, rfl⟩ (st := []) rfl rfl ⟨Nat.ble_eq_true_of_le (by show _ ≤ 600104; omega), Nat.ble_eq_true_of_le (by show _ ≤ 7301314; omega)⟩ dL_law_875 (fun r_875 g_875 h => ?_)
        obtain ⟨gG_875, hG_875, h⟩ := h
        refine jv_gh hG_875 ?_
        refine jv_iload C dL_law_878 rfl ?_
        refine jv_iload C dL_law_880 rfl ?_
        refine jv_iadd C dL_law_882 ?_
        obtain ⟨hr_883, h1_883, h2_883⟩ := h
        refine jv_icmp_ne (tgt := 890) C hr_883.1 hr_883.2 dL_law_883 rfl (fun hc_883 => ?_) (fun hc_883 => ?_)
        · replace h := h1_883 hc_883
          refine jv_const C dL_law_890 ?_
          refine jv_wd (k := cb + 0) (n := sb + 0) (Nat.ble_eq_true_of_le (by omega)) (Nat.ble_eq_true_of_le (by omega)) ?_
          exact jv_less (ls' := [some (.ref b0), some (.ref (s0.heap.size + (0 : Int).toNat)), some (jv_i nw), some (jv_i nc), some (jv_i np), some (jv_i ns), none, some (jv_i tu), some (jv_i nn), none, none, some (jv_i sv), some (jv_i pz), none, none, none, none]) ⟨rfl, ⟨rfl, ⟨rfl, ⟨rfl, ⟨rfl, ⟨rfl, ⟨rfl, ⟨rfl, ⟨rfl, ⟨rfl, trivial⟩⟩⟩⟩⟩⟩⟩⟩⟩⟩ (hJ891 _ _ h)
        · replace h := h2_883 hc_883
          refine jv_wd (k := cb + 0) (n := sb + 0) (Nat.ble_eq_true_of_le (by omega)) (Nat.ble_eq_true_of_le (by omega)) ?_
          exact jv_less (ls' := [some (.ref b0), some (.ref (s0.heap.size + (0 : Int).toNat)), some (jv_i nw), some (jv_i nc), some (jv_i np), some (jv_i ns), none, some (jv_i tu), some (jv_i nn), none, none, some (jv_i sv), some (jv_i pz), none, none, none, none]) ⟨rfl, ⟨rfl, ⟨rfl, ⟨rfl, ⟨rfl, ⟨rfl, ⟨rfl, ⟨rfl, ⟨rfl, ⟨rfl, trivial⟩⟩⟩⟩⟩⟩⟩⟩⟩⟩ (hJ886 _ h)
    obtain ⟨hr_831, h1_831, h2_831⟩ := h
    refine jv_if_ne (tgt := 846) C hr_831 dL_law_831 rfl (fun hc_831 => ?_) (fun hc_831 => ?_)
    · replace h := h1_831 hc_831
      refine jv_const C dL_law_846 ?_
      refine jv_iload C dL_law_847 rfl ?_
      refine jv_sipush C dL_law_849 (by decide +kernel) ?_
      refine jv_callSi C (M_L_low h) kw_L_52 rfl ⟨rfl, rfl⟩ (st := [jv_i 1]) rfl rfl ⟨Nat.ble_eq_true_of_le (by show _ ≤ 600104; omega), Nat.ble_eq_true_of_le (by show _ ≤ 7301314; omega)⟩ dL_law_852 (fun r_852 g_852 h => ?_)
      refine jv_iadd C dL_law_855 ?_
      refine jv_wd (k := cb + 0) (n := sb + 0) (Nat.ble_eq_true_of_le (by omega)) (Nat.ble_eq_true_of_le (by omega)) ?_
      exact jv_less (ls' := [some (.ref b0), some (.ref (s0.heap.size + (0 : Int).toNat)), some (jv_i nw), some (jv_i nc), some (jv_i np), some (jv_i ns), none, some (jv_i tu), some (jv_i nn), none, none, some (jv_i sv), some (jv_i pz), none, none, none, none]) ⟨rfl, ⟨rfl, ⟨rfl, ⟨rfl, ⟨rfl, ⟨rfl, ⟨rfl, ⟨rfl, ⟨rfl, ⟨rfl, trivial⟩⟩⟩⟩⟩⟩⟩⟩⟩⟩ (hJ856 _ _ h)
    · replace h := h2_831 hc_831
      refine jv_const C dL_law_834 ?_
      refine jv_iload C dL_law_835 rfl ?_
      refine jv_bipush C dL_law_837 (by decide +kernel) ?_
      refine jv_callSi C (M_L_low h) kw_L_52 rfl ⟨rfl, rfl⟩ (st := [jv_i 1]) rfl rfl ⟨Nat.ble_eq_true_of_le (by show _ ≤ 600104; omega), Nat.ble_eq_true_of_le (by show _ ≤ 7301314; omega)⟩ dL_law_839 (fun r_839 g_839 h => ?_)
      refine jv_iadd C dL_law_842 ?_
      refine jv_goto (tgt := 856) C dL_law_843 rfl ?_
      refine jv_wd (k := cb + 0) (n := sb + 0) (Nat.ble_eq_true_of_le (by omega)) (Nat.ble_eq_true_of_le (by omega)) ?_
      exact jv_less (ls' := [some (.ref b0), some (.ref (s0.heap.size + (0 : Int).toNat)), some (jv_i nw), some (jv_i nc), some (jv_i np), some (jv_i ns), none, some (jv_i tu), some (jv_i nn), none, none, some (jv_i sv), some (jv_i pz), none, none, none, none]) ⟨rfl, ⟨rfl, ⟨rfl, ⟨rfl, ⟨rfl, ⟨rfl, ⟨rfl, ⟨rfl, ⟨rfl, ⟨rfl, trivial⟩⟩⟩⟩⟩⟩⟩⟩⟩⟩ (hJ856 _ _ h)
