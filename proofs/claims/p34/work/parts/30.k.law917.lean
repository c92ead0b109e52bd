def wB_LT_917_1018 (nw : Int) (nc : Int) (np : Int) (ns : Int) (tu : Int) (nn : Int) (sv : Int) (pz : Int) (KU1105 : Int → Int → Int → Int → Int → Int → Int → Int → Int → jv_Mem → Prop) (y0_1018 : Int) (gj_1018 : jv_Mem) : Prop :=
  KU1105 nw nc np ns y0_1018 tu nn sv pz gj_1018
def wB_LT_917_1017 (nw : Int) (nc : Int) (np : Int) (ns : Int) (tu : Int) (nn : Int) (sv : Int) (pz : Int) (KU1105 : Int → Int → Int → Int → Int → Int → Int → Int → Int → jv_Mem → Prop) (gj_1017 : jv_Mem) : Prop :=
  wB_LT_917_1018 nw nc np ns tu nn sv pz KU1105 0 gj_1017
def wB_LT_917_978 (nw : Int) (nc : Int) (np : Int) (ns : Int) (tu : Int) (nn : Int) (sv : Int) (pz : Int) (KU1105 : Int → Int → Int → Int → Int → Int → Int → Int → Int → jv_Mem → Prop) (r_936 : Int) (y0_978 : Int) (gj_978 : jv_Mem) : Prop :=
  ((jv_r y0_978) ∧ (y0_978 < ((-3)) → wB_LT_917_1017 nw nc np ns tu nn sv pz KU1105 gj_978) ∧ (((-3)) ≤ y0_978 → (wp_X8_streak sv (fun (r_990 : Int) (g_990 : jv_Mem) => ((jv_r r_990 ∧ jv_r r_936) ∧ (r_990 < r_936 → wB_LT_917_1017 nw nc np ns tu nn sv pz KU1105 g_990) ∧ (r_936 ≤ r_990 → (wp_X8_streak sv (fun (r_1001 : Int) (g_1001 : jv_Mem) => (wp_X8_streakAnew sv (fun (r_1007 : Int) (g_1007 : jv_Mem) => ((jv_r r_1001 ∧ jv_r r_1007) ∧ (¬ r_1001 = r_1007 → wB_LT_917_1017 nw nc np ns tu nn sv pz KU1105 g_1007) ∧ (r_1001 = r_1007 → wB_LT_917_1018 nw nc np ns tu nn sv pz KU1105 1 g_1007))) g_1001)) g_990)))) gj_978)))
def wp_LT_917 (KU1023 : Int → Int → Int → Int → Int → Int → Int → Int → Int → jv_Mem → Prop) (KU1105 : Int → Int → Int → Int → Int → Int → Int → Int → Int → jv_Mem → Prop) (nw nc np ns tu nn vv sv pz so : Int) (g : jv_Mem) : Prop :=
  ((jv_r so) ∧ (22 ≤ so → KU1023 nw nc np ns tu nn vv sv pz g) ∧ (so < 22 → (wp_L_low vv 9 (fun (r_928 : Int) (g_928 : jv_Mem) => (wp_X8_streak sv (fun (r_936 : Int) (g_936 : jv_Mem) => (wp_L_low vv 2 (fun (r_944 : Int) (g_944 : jv_Mem) => ((jv_r r_944) ∧ (¬ r_944 = 0 → (wp_L_letter vv (fun (r_972 : Int) (g_972 : jv_Mem) => (wp_L_enter sv pz r_928 r_972 (fun (r_975 : Int) (g_975 : jv_Mem) => wB_LT_917_978 nw nc np ns tu nn sv pz KU1105 r_936 r_975 g_975) g_972)) g_944)) ∧ (r_944 = 0 → (wp_L_help sv pz r_928 (fun (r_957 : Int) (g_957 : jv_Mem) => wB_LT_917_978 nw nc np ns tu nn sv pz KU1105 r_936 r_957 g_957) g_944)))) g_936)) g_928)) g)))
set_option maxHeartbeats 4000000 in
set_option maxRecDepth 100000 in
theorem LT_917 {p : Program} {l : Launch} {e : Env} {m : MethodId} {below : List Frame} {meth : Method} {c : Code} {s0 : State} {b0 : Addr} {D : va_G} {ids : Nat → ClassId} {L : Nat} {xs : Nat → Int32} (hT : jv_T l s0 b0) (C : jv_C p s0 m #[Value.ref b0] c code RL s0 b0 D ids) (hml : 17 = c.maxLocals) (hr : meth.sig.returnType = ret) (hlk : meth.locks = false) (hX : va_X b0 L xs s0 s0.heap) (hbl : b0 < s0.heap.size) (hL : L ≤ 260) {cb sb : Nat} (hcb : cb ≤ 590000) (hsb : sb ≤ 7200000) {KU1023 : Int → Int → Int → Int → Int → Int → Int → Int → Int → jv_Mem → Prop} {KU1105 : Int → Int → Int → Int → Int → Int → Int → Int → Int → jv_Mem → Prop} (hU1023 : ∀ (nw nc np ns tu nn vv sv pz : Int) (g : jv_Mem), KU1023 nw nc np ns tu nn vv sv pz g → jv_V p l e room_1 s0 m #[Value.ref b0] below meth c (cb + 0) (sb + 0) (lw_Z below #[Value.ref b0] s0) s0 D ids none jv_SH g 1023 [some (.ref b0), some (.ref (s0.heap.size + (0 : Int).toNat)), some (jv_i nw), some (jv_i nc), some (jv_i np), some (jv_i ns), none, some (jv_i tu), some (jv_i nn), some (jv_i vv), none, some (jv_i sv), some (jv_i pz), none, none, none, none] []) (hU1105 : ∀ (nw nc np ns ii tu nn sv pz : Int) (g : jv_Mem), KU1105 nw nc np ns ii tu nn sv pz g → jv_V p l e room_1 s0 m #[Value.ref b0] below meth c (cb + 4) (sb + 24) (lw_Z below #[Value.ref b0] s0) s0 D ids none jv_SH g 1105 [some (.ref b0), some (.ref (s0.heap.size + (0 : Int).toNat)), some (jv_i nw), some (jv_i nc), some (jv_i np), some (jv_i ns), some (jv_i ii), some (jv_i tu), some (jv_i nn), none, none, some (jv_i sv), some (jv_i pz), none, none, none, none] []) {nw nc np ns tu nn vv sv pz so : Int} {g : jv_Mem} (h : wp_LT_917 KU1023 KU1105 nw nc np ns tu nn vv sv pz so g) : jv_V p l e room_1 s0 m #[Value.ref b0] below meth c (cb + 0) (sb + 0) (lw_Z below #[Value.ref b0] s0) s0 D ids none jv_SH g 917 [some (.ref b0), some (.ref (s0.heap.size + (0 : Int).toNat)), some (jv_i nw), some (jv_i nc), some (jv_i np), some (jv_i ns), none, some (jv_i tu), some (jv_i nn), some (jv_i vv), none, some (jv_i sv), some (jv_i pz), some (jv_i so), none, none, none] [] := by
  unfold wp_LT_917 at h
  refine jv_iload C dL_law_917 rfl ?_
  refine jv_bipush C dL_law_919 (by decide +kernel) ?_
  obtain ⟨hr_921, h1_921, h2_921⟩ := h
  refine jv_icmp_ge (tgt := 1023) C hr_921 ⟨by decide, by decide⟩ dL_law_921 rfl (fun hc_921 => ?_) (fun hc_921 => ?_)
  · replace h := h1_921 hc_921
    refine jv_wd (k := cb + 0) (n := sb + 0) (Nat.ble_eq_true_of_le (by omega)) (Nat.ble_eq_true_of_le (by omega)) ?_
    exact jv_less (ls' := [some (.ref b0), some (.ref (s0.heap.size + (0 : Int).toNat)), some (jv_i nw), some (jv_i nc), some (jv_i np), some (jv_i ns), none, some (jv_i tu), some (jv_i nn), some (jv_i vv), none, some (jv_i sv), some (jv_i pz), none, none, none, none]) ⟨rfl, ⟨rfl, ⟨rfl, ⟨rfl, ⟨rfl, ⟨rfl, ⟨rfl, ⟨rfl, ⟨rfl, ⟨rfl, ⟨rfl, trivial⟩⟩⟩⟩⟩⟩⟩⟩⟩⟩⟩ (hU1023 _ _ _ _ _ _ _ _ _ _ h)
  · replace h := h2_921 hc_921
    refine jv_iload C dL_law_924 rfl ?_
    refine jv_bipush C dL_law_926 (by decide +kernel) ?_
    refine jv_callSi C (M_L_low h) kw_L_52 rfl ⟨rfl, rfl⟩ (st := []) rfl rfl ⟨Nat.ble_eq_true_of_le (by show _ ≤ 600104; omega), Nat.ble_eq_true_of_le (by show _ ≤ 7301314; omega)⟩ dL_law_928 (fun r_928 g_928 h => ?_)
    refine jv_istore (ls' := [some (.ref b0), some (.ref (s0.heap.size + (0 : Int).toNat)), some (jv_i nw), some (jv_i nc), some (jv_i np), some (jv_i ns), none, some (jv_i tu), some (jv_i nn), some (jv_i vv), none, some (jv_i sv), some (jv_i pz), some (jv_i so), some (jv_i r_928), none, none]) C dL_law_931 (Nat.lt_of_lt_of_eq (Nat.le_of_ble_eq_true rfl) hml) rfl ?_
    refine jv_aload_n C dL_law_933 rfl ?_
    refine jv_iload C dL_law_934 rfl ?_
    refine jv_callVi C (M_X8_streak h) kw_L_60 sS_0 rfl rfl ⟨rfl, rfl⟩ (st := []) rfl rfl ⟨Nat.ble_eq_true_of_le (by show _ ≤ 600104; omega), Nat.ble_eq_true_of_le (by show _ ≤ 7301314; omega)⟩ dL_law_936 (fun r_936 g_936 h => ?_)
    refine jv_istore (ls' := [some (.ref b0), some (.ref (s0.heap.size + (0 : Int).toNat)), some (jv_i nw), some (jv_i nc), some (jv_i np), some (jv_i ns), none, some (jv_i tu), some (jv_i nn), some (jv_i vv), none, some (jv_i sv), some (jv_i pz), some (jv_i so), some (jv_i r_928), some (jv_i r_936), none]) C dL_law_939 (Nat.lt_of_lt_of_eq (Nat.le_of_ble_eq_true rfl) hml) rfl ?_
    refine jv_iload C dL_law_941 rfl ?_
    refine jv_const C dL_law_943 ?_
    refine jv_callSi C (M_L_low h) kw_L_52 rfl ⟨rfl, rfl⟩ (st := []) rfl rfl ⟨Nat.ble_eq_true_of_le (by show _ ≤ 600104; omega), Nat.ble_eq_true_of_le (by show _ ≤ 7301314; omega)⟩ dL_law_944 (fun r_944 g_944 h => ?_)
    have hJ978 : ∀ (y0_978 : Int) (gj_978 : jv_Mem), wB_LT_917_978 nw nc np ns tu nn sv pz KU1105 r_936 y0_978 gj_978 → jv_V p l e room_1 s0 m #[Value.ref b0] below meth c (cb + 2) (sb + 12) (lw_Z below #[Value.ref b0] s0) s0 D ids none jv_SH gj_978 978 [some (.ref b0), some (.ref (s0.heap.size + (0 : Int).toNat)), some (jv_i nw), some (jv_i nc), some (jv_i np), some (jv_i ns), none, some (jv_i tu), some (jv_i nn), none, none, some (jv_i sv), some (jv_i pz), none, none, some (jv_i r_936), none] [jv_i y0_978] := by
      intro y0_978 gj_978 h
      unfold wB_LT_917_978 at h
      refine jv_istore (ls' := [some (.ref b0), some (.ref (s0.heap.size + (0 : Int).toNat)), some (jv_i nw), some (jv_i nc), some (jv_i np), some (jv_i ns), none, some (jv_i tu), some (jv_i nn), none, none, some (jv_i sv), some (jv_i pz), none, none, some (jv_i r_936), some (jv_i y0_978)]) C dL_law_978 (Nat.lt_of_lt_of_eq (Nat.le_of_ble_eq_true rfl) hml) rfl ?_
      refine jv_iload C dL_law_980 rfl ?_
      refine jv_bipush C dL_law_982 (by decide +kernel) ?_
      have hJ1018 : ∀ (y0_1018 : Int) (gj_1018 : jv_Mem), wB_LT_917_1018 nw nc np ns tu nn sv pz KU1105 y0_1018 gj_1018 → jv_V p l e room_1 s0 m #[Value.ref b0] below meth c (cb + 2) (sb + 12) (lw_Z below #[Value.ref b0] s0) s0 D ids none jv_SH gj_1018 1018 [some (.ref b0), some (.ref (s0.heap.size + (0 : Int).toNat)), some (jv_i nw), some (jv_i nc), some (jv_i np), some (jv_i ns), none, some (jv_i tu), some (jv_i nn), none, none, some (jv_i sv), some (jv_i pz), none, none, none, none] [jv_i y0_1018] := by
        intro y0_1018 gj_1018 h
        unfold wB_LT_917_1018 at h
        refine jv_istore (ls' := [some (.ref b0), some (.ref (s0.heap.size + (0 : Int).toNat)), some (jv_i nw), some (jv_i nc), some (jv_i np), some (jv_i ns), some (jv_i y0_1018), some (jv_i tu), some (jv_i nn), none, none, some (jv_i sv), some (jv_i pz), none, none, none, none]) C dL_law_1018 (Nat.lt_of_lt_of_eq (Nat.le_of_ble_eq_true rfl) hml) rfl ?_
        refine jv_goto (tgt := 1105) C dL_law_1020 rfl ?_
        refine jv_wd (k := cb + 4) (n := sb + 24) (Nat.ble_eq_true_of_le (by omega)) (Nat.ble_eq_true_of_le (by omega)) ?_
        exact jv_less (ls' := [some (.ref b0), some (.ref (s0.heap.size + (0 : Int).toNat)), some (jv_i nw), some (jv_i nc), some (jv_i np), some (jv_i ns), some (jv_i y0_1018), some (jv_i tu), some (jv_i nn), none, none, some (jv_i sv), some (jv_i pz), none, none, none, none]) ⟨rfl, ⟨rfl, ⟨rfl, ⟨rfl, ⟨rfl, ⟨rfl, ⟨rfl, ⟨rfl, ⟨rfl, ⟨rfl, ⟨rfl, trivial⟩⟩⟩⟩⟩⟩⟩⟩⟩⟩⟩ (hU1105 _ _ _ _ _ _ _ _ _ _ h)
      have hJ1017 : ∀ (gj_1017 : jv_Mem), wB_LT_917_1017 nw nc np ns tu nn sv pz KU1105 gj_1017 → jv_V p l e room_1 s0 m #[Value.ref b0] below meth c (cb + 2) (sb + 12) (lw_Z below #[Value.ref b0] s0) s0 D ids none jv_SH gj_1017 1017 [some (.ref b0), some (.ref (s0.heap.size + (0 : Int).toNat)), some (jv_i nw), some (jv_i nc), some (jv_i np), some (jv_i ns), none, some (jv_i tu), some (jv_i nn), none, none, some (jv_i sv), some (jv_i pz), none, none, none, none] [] := by
        intro gj_1017 h
        unfold wB_LT_917_1017 at h
        refine jv_const C dL_law_1017 ?_
        refine jv_wd (k := cb + 2) (n := sb + 12) (Nat.ble_eq_true_of_le (by omega)) (Nat.ble_eq_true_of_le (by omega)) ?_
        exact jv_less (ls' := [some (.ref b0), some (.ref (s0.heap.size + (0 : Int).toNat)), some (jv_i nw), some (jv_i nc), some (jv_i np), some (jv_i ns), none, some (jv_i tu), some (jv_i nn), none, none, some (jv_i sv), some (jv_i pz), none, none, none, none]) ⟨rfl, ⟨rfl, ⟨rfl, ⟨rfl, ⟨rfl, ⟨rfl, ⟨rfl, ⟨rfl, ⟨rfl, ⟨rfl, trivial⟩⟩⟩⟩⟩⟩⟩⟩⟩⟩ (hJ1018 _ _ h)
      obtain ⟨hr_984, h1_984, h2_984⟩ := h
      refine jv_icmp_lt (tgt := 1017) C hr_984 ⟨by decide, by decide⟩ dL_law_984 rfl (fun hc_984 => ?_) (fun hc_984 => ?_)
      · replace h := h1_984 hc_984
        refine jv_wd (k := cb + 2) (n := sb + 12) (Nat.ble_eq_true_of_le (by omega)) (Nat.ble_eq_true_of_le (by omega)) ?_
        exact jv_less (ls' := [some (.ref b0), some (.ref (s0.heap.size + (0 : Int).toNat)), some (jv_i nw), some (jv_i nc), some (jv_i np), some (jv_i ns), none, some (jv_i tu), some (jv_i nn), none, none, some (jv_i sv), some (jv_i pz), none, none, none, none]) ⟨rfl, ⟨rfl, ⟨rfl, ⟨rfl, ⟨rfl, ⟨rfl, ⟨rfl, ⟨rfl, ⟨rfl, ⟨rfl, trivial⟩⟩⟩⟩⟩⟩⟩⟩⟩⟩ (hJ1017 _ h)
      · replace h := h2_984 hc_984
        refine jv_aload_n C dL_law_987 rfl ?_
        refine jv_iload C dL_law_988 rfl ?_
        refine jv_callVi C (M_X8_streak h) kw_L_60 sS_0 rfl rfl ⟨rfl, rfl⟩ (st := []) rfl rfl ⟨Nat.ble_eq_true_of_le (by show _ ≤ 600104; omega), Nat.ble_eq_true_of_le (by show _ ≤ 7301314; omega)⟩ dL_law_990 (fun r_990 g_990 h => ?_)
        refine jv_iload C dL_law_993 rfl ?_
        obtain ⟨hr_995, h1_995, h2_995⟩ := h
        refine jv_icmp_lt (tgt := 1017) C hr_995.1 hr_995.2 dL_law_995 rfl (fun hc_995 => ?_) (fun hc_995 => ?_)
        · replace h := h1_995 hc_995
          refine jv_wd (k := cb + 2) (n := sb + 12) (Nat.ble_eq_true_of_le (by omega)) (Nat.ble_eq_true_of_le (by omega)) ?_
          exact jv_less (ls' := [some (.ref b0), some (.ref (s0.heap.size + (0 : Int).toNat)), some (jv_i nw), some (jv_i nc), some (jv_i np), some (jv_i ns), none, some (jv_i tu), some (jv_i nn), none, none, some (jv_i sv), some (jv_i pz), none, none, none, none]) ⟨rfl, ⟨rfl, ⟨rfl, ⟨rfl, ⟨rfl, ⟨rfl, ⟨rfl, ⟨rfl, ⟨rfl, ⟨rfl, trivial⟩⟩⟩⟩⟩⟩⟩⟩⟩⟩ (hJ1017 _ h)
        · replace h := h2_995 hc_995
          refine jv_aload_n C dL_law_998 rfl ?_
          refine jv_iload C dL_law_999 rfl ?_
          refine jv_callVi C (M_X8_streak h) kw_L_60 sS_0 rfl rfl ⟨rfl, rfl⟩ (st := []) rfl rfl ⟨Nat.ble_eq_true_of_le (by show _ ≤ 600104; omega), Nat.ble_eq_true_of_le (by show _ ≤ 7301314; omega)⟩ dL_law_1001 (fun r_1001 g_1001 h => ?_)
          refine jv_aload_n C dL_law_1004 rfl ?_
          refine jv_iload C dL_law_1005 rfl ?_
          refine jv_callVi C (M_X8_streakAnew h) kw_L_147 sS_0 rfl rfl ⟨rfl, rfl⟩ (st := [jv_i r_1001]) rfl rfl ⟨Nat.ble_eq_true_of_le (by show _ ≤ 600104; omega), Nat.ble_eq_true_of_le (by show _ ≤ 7301314; omega)⟩ dL_law_1007 (fun r_1007 g_1007 h => ?_)
          obtain ⟨hr_1010, h1_1010, h2_1010⟩ := h
          refine jv_icmp_ne (tgt := 1017) C hr_1010.1 hr_1010.2 dL_law_1010 rfl (fun hc_1010 => ?_) (fun hc_1010 => ?_)
          · replace h := h1_1010 hc_1010
            refine jv_wd (k := cb + 2) (n := sb + 12) (Nat.ble_eq_true_of_le (by omega)) (Nat.ble_eq_true_of_le (by omega)) ?_
            exact jv_less (ls' := [some (.ref b0), some (.ref (s0.heap.size + (0 : Int).toNat)), some (jv_i nw), some (jv_i nc), some (jv_i np), some (jv_i ns), none, some (jv_i tu), some (jv_i nn), none, none, some (jv_i sv), some (jv_i pz), none, none, none, none]) ⟨rfl, ⟨rfl, ⟨rfl, ⟨rfl, ⟨rfl, ⟨rfl, ⟨rfl, ⟨rfl, ⟨rfl, ⟨rfl, trivial⟩⟩⟩⟩⟩⟩⟩⟩⟩⟩ (hJ1017 _ h)
          · replace h := h2_1010 hc_1010
            refine jv_const C dL_law_1013 ?_
            refine jv_goto (tgt := 1018) C dL_law_1014 rfl ?_
            refine jv_wd (k := cb + 2) (n := sb + 12) (Nat.ble_eq_true_of_le (by omega)) (Nat.ble_eq_true_of_le (by omega)) ?_
            exact jv_less (ls' := [some (.ref b0), some (.ref (s0.heap.size + (0 : Int).toNat)), some (jv_i nw), some (jv_i nc), some (jv_i np), some (jv_i ns), none, some (jv_i tu), some (jv_i nn), none, none, some (jv_i sv), some (jv_i pz), none, none, none, none]) ⟨rfl, ⟨rfl, ⟨rfl, ⟨rfl, ⟨rfl, ⟨rfl, ⟨rfl, ⟨rfl, ⟨rfl, ⟨rfl, trivial⟩⟩⟩⟩⟩⟩⟩⟩⟩⟩ (hJ1018 _ _ h)
    obtain ⟨hr_947, h1_947, h2_947⟩ := h
    refine jv_if_ne (tgt := 963) C hr_947 dL_law_947 rfl (fun hc_947 => ?_) (fun hc_947 => ?_)
    · replace h := h1_947 hc_947
      refine jv_aload_n C dL_law_963 rfl ?_
      refine jv_iload C dL_law_964 rfl ?_
      refine jv_iload C dL_law_966 rfl ?_
      refine jv_iload C dL_law_968 rfl ?_
      refine jv_iload C dL_law_970 rfl ?_
      refine jv_callSi C (M_L_letter h) kw_L_98 rfl ⟨rfl, rfl⟩ (st := [jv_i r_928, jv_i pz, jv_i sv, .ref (s0.heap.size + (0 : Int).toNat)]) rfl rfl ⟨Nat.ble_eq_true_of_le (by show _ ≤ 600104; omega), Nat.ble_eq_true_of_le (by show _ ≤ 7301314; omega)⟩ dL_law_972 (fun r_972 g_972 h => ?_)
      refine jv_callSWi C (M_L_enter hT h) kw_L_144 rfl ⟨rfl, rfl⟩ (st := []) rfl rfl ⟨Nat.ble_eq_true_of_le (by show _ ≤ 600104; omega), Nat.ble_eq_true_of_le (by show _ ≤ 7301314; omega)⟩ dL_law_975 (fun r_975 g_975 h => ?_)
      refine jv_wd (k := cb + 2) (n := sb + 12) (Nat.ble_eq_true_of_le (by omega)) (Nat.ble_eq_true_of_le (by omega)) ?_
      exact jv_less (ls' := [some (.ref b0), some (.ref (s0.heap.size + (0 : Int).toNat)), some (jv_i nw), some (jv_i nc), some (jv_i np), some (jv_i ns), none, some (jv_i tu), some (jv_i nn), none, none, some (jv_i sv), some (jv_i pz), none, none, some (jv_i r_936), none]) ⟨rfl, ⟨rfl, ⟨rfl, ⟨rfl, ⟨rfl, ⟨rfl, ⟨rfl, ⟨rfl, ⟨rfl, ⟨rfl, ⟨rfl, trivial⟩⟩⟩⟩⟩⟩⟩⟩⟩⟩⟩ (hJ978 _ _ h)
    · replace h := h2_947 hc_947
      refine jv_aload_n C dL_law_950 rfl ?_
      refine jv_iload C dL_law_951 rfl ?_
      refine jv_iload C dL_law_953 rfl ?_
      refine jv_iload C dL_law_955 rfl ?_
      refine jv_callSWi C (M_L_help hT h) kw_L_141 rfl ⟨rfl, rfl⟩ (st := []) rfl rfl ⟨Nat.ble_eq_true_of_le (by show _ ≤ 600104; omega), Nat.ble_eq_true_of_le (by show _ ≤ 7301314; omega)⟩ dL_law_957 (fun r_957 g_957 h => ?_)
      refine jv_goto (tgt := 978) C dL_law_960 rfl ?_
      refine jv_wd (k := cb + 2) (n := sb + 12) (Nat.ble_eq_true_of_le (by omega)) (Nat.ble_eq_true_of_le (by omega)) ?_
      exact jv_less (ls' := [some (.ref b0), some (.ref (s0.heap.size + (0 : Int).toNat)), some (jv_i nw), some (jv_i nc), some (jv_i np), some (jv_i ns), none, some (jv_i tu), some (jv_i nn), none, none, some (jv_i sv), some (jv_i pz), none, none, some (jv_i r_936), none]) ⟨rfl, ⟨rfl, ⟨rfl, ⟨rfl, ⟨rfl, ⟨rfl, ⟨rfl, ⟨rfl, ⟨rfl, ⟨rfl, ⟨rfl, trivial⟩⟩⟩⟩⟩⟩⟩⟩⟩⟩⟩ (hJ978 _ _ h)
