theorem jv_lret {p : Program} {l : Launch} {e : Env} {m : MethodId} {below : List Frame} {meth : Method} {c : Code} {cells slots : Nat} {s0 : State} {b0 : Addr} {D : va_G} {ids : Nat → ClassId} {g : jv_Mem} {pc : Nat} {ls : List (Option Value)} (C : jv_C p s0 m #[Value.ref b0] c code RL s0 b0 D ids) (hr : meth.sig.returnType = ret) (hlk : meth.locks = false) (hc : cells ≤ 600104) (hs : slots ≤ 7301314) (hd : decode code pc = .ok (.ireturn, 1)) : jv_V p l e room_1 s0 m #[Value.ref b0] below meth c cells slots (lw_Z below #[Value.ref b0] s0) s0 D ids none jv_SH g pc ls [jv_i 1] :=
  fun H locs arr _ _ h3 _ => va_forget h3.2.2 (W.widen hc hs (lw_ret C.1 C.2.1 hr hlk hd))
def wB_LT_74_152 (nw : Int) (nc : Int) (np : Int) (ns : Int) (tu : Int) (nn : Int) (KU176 : Int → Int → Int → Int → Int → Int → Int → Int → Int → jv_Mem → Prop) (KU361 : Int → Int → Int → Int → Int → Int → Int → Int → Int → Int → Int → jv_Mem → Prop) (r_91 : Int) (y0_112 : Int) (y0_132 : Int) (y0_152 : Int) (gj_152 : jv_Mem) : Prop :=
  (wp_L_low (jv_shr r_91 20) 24 (fun (r_161 : Int) (g_161 : jv_Mem) => ((jv_r nw) ∧ (nw = 0 → KU176 nw nc np ns tu nn r_91 y0_132 y0_152 g_161) ∧ (¬ nw = 0 → ((jv_r r_161) ∧ (4 ≤ r_161 → KU361 nw nc np ns tu nn r_91 y0_112 y0_132 y0_152 r_161 g_161) ∧ (r_161 < 4 → KU176 nw nc np ns tu nn r_91 y0_132 y0_152 g_161))))) gj_152)
def wB_LT_74_132 (nw : Int) (nc : Int) (np : Int) (ns : Int) (tu : Int) (nn : Int) (KU176 : Int → Int → Int → Int → Int → Int → Int → Int → Int → jv_Mem → Prop) (KU361 : Int → Int → Int → Int → Int → Int → Int → Int → Int → Int → Int → jv_Mem → Prop) (r_91 : Int) (y0_112 : Int) (y0_132 : Int) (gj_132 : jv_Mem) : Prop :=
  ((jv_r np) ∧ (¬ np = 0 → (wp_L_low (jv_shr r_91 5) np (fun (r_149 : Int) (g_149 : jv_Mem) => wB_LT_74_152 nw nc np ns tu nn KU176 KU361 r_91 y0_112 y0_132 r_149 g_149) gj_132)) ∧ (np = 0 → wB_LT_74_152 nw nc np ns tu nn KU176 KU361 r_91 y0_112 y0_132 0 gj_132))
def wB_LT_74_112 (nw : Int) (nc : Int) (np : Int) (ns : Int) (tu : Int) (nn : Int) (KU176 : Int → Int → Int → Int → Int → Int → Int → Int → Int → jv_Mem → Prop) (KU361 : Int → Int → Int → Int → Int → Int → Int → Int → Int → Int → Int → jv_Mem → Prop) (r_91 : Int) (y0_112 : Int) (gj_112 : jv_Mem) : Prop :=
  ((jv_r ns) ∧ (¬ ns = 0 → (wp_L_low (jv_shr r_91 3) ns (fun (r_129 : Int) (g_129 : jv_Mem) => wB_LT_74_132 nw nc np ns tu nn KU176 KU361 r_91 y0_112 r_129 g_129) gj_112)) ∧ (ns = 0 → wB_LT_74_132 nw nc np ns tu nn KU176 KU361 r_91 y0_112 0 gj_112))
def wp_LT_74 (KU176 : Int → Int → Int → Int → Int → Int → Int → Int → Int → jv_Mem → Prop) (KU361 : Int → Int → Int → Int → Int → Int → Int → Int → Int → Int → Int → jv_Mem → Prop) (KU1157 : Int → jv_Mem → Prop) (nw nc np ns ii tu nn : Int) (g : jv_Mem) : Prop :=
  ((jv_r nn ∧ jv_r tu) ∧ (tu ≤ nn → KU1157 ii g) ∧ (nn < tu → ((jv_r ii) ∧ (ii = 0 → KU1157 ii g) ∧ (¬ ii = 0 → (wp_L_cell (1 + nn) (fun (r_91 : Int) (g_91 : jv_Mem) => ((jv_r nw) ∧ (¬ nw = 0 → (wp_L_low (jv_shr r_91 3) nw (fun (r_109 : Int) (g_109 : jv_Mem) => wB_LT_74_112 nw nc np ns tu nn KU176 KU361 r_91 r_109 g_109) g_91)) ∧ (nw = 0 → wB_LT_74_112 nw nc np ns tu nn KU176 KU361 r_91 0 g_91))) g)))))
set_option maxHeartbeats 4000000 in
set_option maxRecDepth 100000 in
theorem LT_74 {p : Program} {l : Launch} {e : Env} {m : MethodId} {below : List Frame} {meth : Method} {c : Code} {s0 : State} {b0 : Addr} {D : va_G} {ids : Nat → ClassId} {L : Nat} {xs : Nat → Int32} (hT : jv_T l s0 b0) (C : jv_C p s0 m #[Value.ref b0] c code RL s0 b0 D ids) (hml : 17 = c.maxLocals) (hr : meth.sig.returnType = ret) (hlk : meth.locks = false) (hX : va_X b0 L xs s0 s0.heap) (hbl : b0 < s0.heap.size) (hL : L ≤ 260) {cb sb : Nat} (hcb : cb ≤ 590000) (hsb : sb ≤ 7200000) {KU176 : Int → Int → Int → Int → Int → Int → Int → Int → Int → jv_Mem → Prop} {KU361 : Int → Int → Int → Int → Int → Int → Int → Int → Int → Int → Int → jv_Mem → Prop} {KU1157 : Int → jv_Mem → Prop} (hU176 : ∀ (nw nc np ns tu nn vv sv pz : Int) (g : jv_Mem), KU176 nw nc np ns tu nn vv sv pz g → jv_V p l e room_1 s0 m #[Value.ref b0] below meth c (cb + 0) (sb + 0) (lw_Z below #[Value.ref b0] s0) s0 D ids none jv_SH g 176 [some (.ref b0), some (.ref (s0.heap.size + (0 : Int).toNat)), some (jv_i nw), some (jv_i nc), some (jv_i np), some (jv_i ns), none, some (jv_i tu), some (jv_i nn), some (jv_i vv), none, some (jv_i sv), some (jv_i pz), none, none, none, none] []) (hU361 : ∀ (nw nc np ns tu nn vv wd sv pz so : Int) (g : jv_Mem), KU361 nw nc np ns tu nn vv wd sv pz so g → jv_V p l e room_1 s0 m #[Value.ref b0] below meth c (cb + 0) (sb + 0) (lw_Z below #[Value.ref b0] s0) s0 D ids none jv_SH g 361 [some (.ref b0), some (.ref (s0.heap.size + (0 : Int).toNat)), some (jv_i nw), some (jv_i nc), some (jv_i np), some (jv_i ns), none, some (jv_i tu), some (jv_i nn), some (jv_i vv), some (jv_i wd), some (jv_i sv), some (jv_i pz), some (jv_i so), none, none, none] []) (hU1157 : ∀ (ii : Int) (g : jv_Mem), KU1157 ii g → jv_V p l e room_1 s0 m #[Value.ref b0] below meth c (cb + 0) (sb + 0) (lw_Z below #[Value.ref b0] s0) s0 D ids none jv_SH g 1157 [none, some (.ref (s0.heap.size + (0 : Int).toNat)), none, none, none, none, some (jv_i ii), none, none, none, none, none, none, none, none, none, none] []) {nw nc np ns ii tu nn : Int} {g : jv_Mem} (h : wp_LT_74 KU176 KU361 KU1157 nw nc np ns ii tu nn g) : jv_V p l e room_1 s0 m #[Value.ref b0] below meth c (cb + 0) (sb + 0) (lw_Z below #[Value.ref b0] s0) s0 D ids none jv_SH g 74 [some (.ref b0), some (.ref (s0.heap.size + (0 : Int).toNat)), some (jv_i nw), some (jv_i nc), some (jv_i np), some (jv_i ns), some (jv_i ii), some (jv_i tu), some (jv_i nn), none, none, none, none, none, none, none, none] [] := by
  unfold wp_LT_74 at h
  refine jv_iload C dL_law_74 rfl ?_
  refine jv_iload C dL_law_76 rfl ?_
  obtain ⟨hr_78, h1_78, h2_78⟩ := h
  refine jv_icmp_ge (tgt := 1157) C hr_78.1 hr_78.2 dL_law_78 rfl (fun hc_78 => ?_) (fun hc_78 => ?_)
  · replace h := h1_78 hc_78
    refine jv_wd (k := cb + 0) (n := sb + 0) (Nat.ble_eq_true_of_le (by omega)) (Nat.ble_eq_true_of_le (by omega)) ?_
    exact jv_less (ls' := [none, some (.ref (s0.heap.size + (0 : Int).toNat)), none, none, none, none, some (jv_i ii), none, none, none, none, none, none, none, none, none, none]) ⟨rfl, ⟨rfl, trivial⟩⟩ (hU1157 _ _ h)
  · replace h := h2_78 hc_78
    refine jv_iload C dL_law_81 rfl ?_
    obtain ⟨hr_83, h1_83, h2_83⟩ := h
    refine jv_if_eq (tgt := 1157) C hr_83 dL_law_83 rfl (fun hc_83 => ?_) (fun hc_83 => ?_)
    · replace h := h1_83 hc_83
      refine jv_wd (k := cb + 0) (n := sb + 0) (Nat.ble_eq_true_of_le (by omega)) (Nat.ble_eq_true_of_le (by omega)) ?_
      exact jv_less (ls' := [none, some (.ref (s0.heap.size + (0 : Int).toNat)), none, none, none, none, some (jv_i ii), none, none, none, none, none, none, none, none, none, none]) ⟨rfl, ⟨rfl, trivial⟩⟩ (hU1157 _ _ h)
    · replace h := h2_83 hc_83
      refine jv_aload_n C dL_law_86 rfl ?_
      refine jv_const C dL_law_87 ?_
      refine jv_iload C dL_law_88 rfl ?_
      refine jv_iadd C dL_law_90 ?_
      refine jv_callSi C (M_L_cell hX hbl hL h) kw_L_94 rfl ⟨rfl, rfl⟩ (st := []) rfl rfl ⟨Nat.ble_eq_true_of_le (by show _ ≤ 600104; omega), Nat.ble_eq_true_of_le (by show _ ≤ 7301314; omega)⟩ dL_law_91 (fun r_91 g_91 h => ?_)
      refine jv_istore (ls' := [some (.ref b0), some (.ref (s0.heap.size + (0 : Int).toNat)), some (jv_i nw), some (jv_i nc), some (jv_i np), some (jv_i ns), some (jv_i ii), some (jv_i tu), some (jv_i nn), some (jv_i r_91), none, none, none, none, none, none, none]) C dL_law_94 (Nat.lt_of_lt_of_eq (Nat.le_of_ble_eq_true rfl) hml) rfl ?_
      refine jv_iload_n C dL_law_96 rfl ?_
      have hJ112 : ∀ (y0_112 : Int) (gj_112 : jv_Mem), wB_LT_74_112 nw nc np ns tu nn KU176 KU361 r_91 y0_112 gj_112 → jv_V p l e room_1 s0 m #[Value.ref b0] below meth c (cb + 0) (sb + 0) (lw_Z below #[Value.ref b0] s0) s0 D ids none jv_SH gj_112 112 [some (.ref b0), some (.ref (s0.heap.size + (0 : Int).toNat)), some (jv_i nw), some (jv_i nc), some (jv_i np), some (jv_i ns), none, some (jv_i tu), some (jv_i nn), some (jv_i r_91), none, none, none, none, none, none, none] [jv_i y0_112] := by
        intro y0_112 gj_112 h
        unfold wB_LT_74_112 at h
        refine jv_istore (ls' := [some (.ref b0), some (.ref (s0.heap.size + (0 : Int).toNat)), some (jv_i nw), some (jv_i nc), some (jv_i np), some (jv_i ns), none, some (jv_i tu), some (jv_i nn), some (jv_i r_91), some (jv_i y0_112), none, none, none, none, none, none]) C dL_law_112 (Nat.lt_of_lt_of_eq (Nat.le_of_ble_eq_true rfl) hml) rfl ?_
        refine jv_iload C dL_law_114 rfl ?_
        have hJ132 : ∀ (y0_132 : Int) (gj_132 : jv_Mem), wB_LT_74_132 nw nc np ns tu nn KU176 KU361 r_91 y0_112 y0_132 gj_132 → jv_V p l e room_1 s0 m #[Value.ref b0] below meth c (cb + 0) (sb + 0) (lw_Z below #[Value.ref b0] s0) s0 D ids none jv_SH gj_132 132 [some (.ref b0), some (.ref (s0.heap.size + (0 : Int).toNat)), some (jv_i nw), some (jv_i nc), some (jv_i np), some (jv_i ns), none, some (jv_i tu), some (jv_i nn), some (jv_i r_91), some (jv_i y0_112), none, none, none, none, none, none] [jv_i y0_132] := by
          intro y0_132 gj_132 h
          unfold wB_LT_74_132 at h
          refine jv_istore (ls' := [some (.ref b0), some (.ref (s0.heap.size + (0 : Int).toNat)), some (jv_i nw), some (jv_i nc), some (jv_i np), some (jv_i ns), none, some (jv_i tu), some (jv_i nn), some (jv_i r_91), some (jv_i y0_112), some (jv_i y0_132), none, none, none, none, none]) C dL_law_132 (Nat.lt_of_lt_of_eq (Nat.le_of_ble_eq_true rfl) hml) rfl ?_
          refine jv_iload C dL_law_134 rfl ?_
          have hJ152 : ∀ (y0_152 : Int) (gj_152 : jv_Mem), wB_LT_74_152 nw nc np ns tu nn KU176 KU361 r_91 y0_112 y0_132 y0_152 gj_152 → jv_V p l e room_1 s0 m #[Value.ref b0] below meth c (cb + 0) (sb + 0) (lw_Z below #[Value.ref b0] s0) s0 D ids none jv_SH gj_152 152 [some (.ref b0), some (.ref (s0.heap.size + (0 : Int).toNat)), some (jv_i nw), some (jv_i nc), some (jv_i np), some (jv_i ns), none, some (jv_i tu), some (jv_i nn), some (jv_i r_91), some (jv_i y0_112), some (jv_i y0_132), none, none, none, none, none] [jv_i y0_152] := by
            intro y0_152 gj_152 h
            unfold wB_LT_74_152 at h
            refine jv_istore (ls' := [some (.ref b0), some (.ref (s0.heap.size + (0 : Int).toNat)), some (jv_i nw), some (jv_i nc), some (jv_i np), some (jv_i ns), none, some (jv_i tu), some (jv_i nn), some (jv_i r_91), some (jv_i y0_112), some (jv_i y0_132), some (jv_i y0_152), none, none, none, none]) C dL_law_152 (Nat.lt_of_lt_of_eq (Nat.le_of_ble_eq_true rfl) hml) rfl ?_
            refine jv_iload C dL_law_154 rfl ?_
            refine jv_bipush C dL_law_156 (by decide +kernel) ?_
            refine jv_ishr C dL_law_158 ?_
            refine jv_bipush C dL_law_159 (by decide +kernel) ?_
            refine jv_callSi C (M_L_low h) kw_L_52 rfl ⟨rfl, rfl⟩ (st := []) rfl rfl ⟨Nat.ble_eq_true_of_le (by show _ ≤ 600104; omega), Nat.ble_eq_true_of_le (by show _ ≤ 7301314; omega)⟩ dL_law_161 (fun r_161 g_161 h => ?_)
            refine jv_istore (ls' := [some (.ref b0), some (.ref (s0.heap.size + (0 : Int).toNat)), some (jv_i nw), some (jv_i nc), some (jv_i np), some (jv_i ns), none, some (jv_i tu), some (jv_i nn), some (jv_i r_91), some (jv_i y0_112), some (jv_i y0_132), some (jv_i y0_152), some (jv_i r_161), none, none, none]) C dL_law_164 (Nat.lt_of_lt_of_eq (Nat.le_of_ble_eq_true rfl) hml) rfl ?_
            refine jv_iload_n C dL_law_166 rfl ?_
            obtain ⟨hr_167, h1_167, h2_167⟩ := h
            refine jv_if_eq (tgt := 176) C hr_167 dL_law_167 rfl (fun hc_167 => ?_) (fun hc_167 => ?_)
            · replace h := h1_167 hc_167
              refine jv_wd (k := cb + 0) (n := sb + 0) (Nat.ble_eq_true_of_le (by omega)) (Nat.ble_eq_true_of_le (by omega)) ?_
              exact jv_less (ls' := [some (.ref b0), some (.ref (s0.heap.size + (0 : Int).toNat)), some (jv_i nw), some (jv_i nc), some (jv_i np), some (jv_i ns), none, some (jv_i tu), some (jv_i nn), some (jv_i r_91), none, some (jv_i y0_132), some (jv_i y0_152), none, none, none, none]) ⟨rfl, ⟨rfl, ⟨rfl, ⟨rfl, ⟨rfl, ⟨rfl, ⟨rfl, ⟨rfl, ⟨rfl, ⟨rfl, ⟨rfl, trivial⟩⟩⟩⟩⟩⟩⟩⟩⟩⟩⟩ (hU176 _ _ _ _ _ _ _ _ _ _ h)
            · replace h := h2_167 hc_167
              refine jv_iload C dL_law_170 rfl ?_
              refine jv_const C dL_law_172 ?_
              obtain ⟨hr_173, h1_173, h2_173⟩ := h
              refine jv_icmp_ge (tgt := 361) C hr_173 ⟨by decide, by decide⟩ dL_law_173 rfl (fun hc_173 => ?_) (fun hc_173 => ?_)
              · replace h := h1_173 hc_173
                refine jv_wd (k := cb + 0) (n := sb + 0) (Nat.ble_eq_true_of_le (by omega)) (Nat.ble_eq_true_of_le (by omega)) ?_
                exact jv_less (ls' := [some (.ref b0), some (.ref (s0.heap.size + (0 : Int).toNat)), some (jv_i nw), some (jv_i nc), some (jv_i np), some (jv_i ns), none, some (jv_i tu), some (jv_i nn), some (jv_i r_91), some (jv_i y0_112), some (jv_i y0_132), some (jv_i y0_152), some (jv_i r_161), none, none, none]) ⟨rfl, ⟨rfl, ⟨rfl, ⟨rfl, ⟨rfl, ⟨rfl, ⟨rfl, ⟨rfl, ⟨rfl, ⟨rfl, ⟨rfl, ⟨rfl, ⟨rfl, trivial⟩⟩⟩⟩⟩⟩⟩⟩⟩⟩⟩⟩⟩ (hU361 _ _ _ _ _ _ _ _ _ _ _ _ h)
              · replace h := h2_173 hc_173
                refine jv_wd (k := cb + 0) (n := sb + 0) (Nat.ble_eq_true_of_le (by omega)) (Nat.ble_eq_true_of_le (by omega)) ?_
                exact jv_less (ls' := [some (.ref b0), some (.ref (s0.heap.size + (0 : Int).toNat)), some (jv_i nw), some (jv_i nc), some (jv_i np), some (jv_i ns), none, some (jv_i tu), some (jv_i nn), some (jv_i r_91), none, some (jv_i y0_132), some (jv_i y0_152), none, none, none, none]) ⟨rfl, ⟨rfl, ⟨rfl, ⟨rfl, ⟨rfl, ⟨rfl, ⟨rfl, ⟨rfl, ⟨rfl, ⟨rfl, ⟨rfl, trivial⟩⟩⟩⟩⟩⟩⟩⟩⟩⟩⟩ (hU176 _ _ _ _ _ _ _ _ _ _ h)
          obtain ⟨hr_136, h1_136, h2_136⟩ := h
          refine jv_if_ne (tgt := 143) C hr_136 dL_law_136 rfl (fun hc_136 => ?_) (fun hc_136 => ?_)
          · replace h := h1_136 hc_136
            refine jv_iload C dL_law_143 rfl ?_
            refine jv_const C dL_law_145 ?_
            refine jv_ishr C dL_law_146 ?_
            refine jv_iload C dL_law_147 rfl ?_
            refine jv_callSi C (M_L_low h) kw_L_52 rfl ⟨rfl, rfl⟩ (st := []) rfl rfl ⟨Nat.ble_eq_true_of_le (by show _ ≤ 600104; omega), Nat.ble_eq_true_of_le (by show _ ≤ 7301314; omega)⟩ dL_law_149 (fun r_149 g_149 h => ?_)
            refine jv_wd (k := cb + 0) (n := sb + 0) (Nat.ble_eq_true_of_le (by omega)) (Nat.ble_eq_true_of_le (by omega)) ?_
            exact jv_less (ls' := [some (.ref b0), some (.ref (s0.heap.size + (0 : Int).toNat)), some (jv_i nw), some (jv_i nc), some (jv_i np), some (jv_i ns), none, some (jv_i tu), some (jv_i nn), some (jv_i r_91), some (jv_i y0_112), some (jv_i y0_132), none, none, none, none, none]) ⟨rfl, ⟨rfl, ⟨rfl, ⟨rfl, ⟨rfl, ⟨rfl, ⟨rfl, ⟨rfl, ⟨rfl, ⟨rfl, ⟨rfl, trivial⟩⟩⟩⟩⟩⟩⟩⟩⟩⟩⟩ (hJ152 _ _ h)
          · replace h := h2_136 hc_136
            refine jv_const C dL_law_139 ?_
            refine jv_goto (tgt := 152) C dL_law_140 rfl ?_
            refine jv_wd (k := cb + 0) (n := sb + 0) (Nat.ble_eq_true_of_le (by omega)) (Nat.ble_eq_true_of_le (by omega)) ?_
            exact jv_less (ls' := [some (.ref b0), some (.ref (s0.heap.size + (0 : Int).toNat)), some (jv_i nw), some (jv_i nc), some (jv_i np), some (jv_i ns), none, some (jv_i tu), some (jv_i nn), some (jv_i r_91), some (jv_i y0_112), some (jv_i y0_132), none, none, none, none, none]) ⟨rfl, ⟨rfl, ⟨rfl, ⟨rfl, ⟨rfl, ⟨rfl, ⟨rfl, ⟨rfl, ⟨rfl, ⟨rfl, ⟨rfl, trivial⟩⟩⟩⟩⟩⟩⟩⟩⟩⟩⟩ (hJ152 _ _ h)
        obtain ⟨hr_116, h1_116, h2_116⟩ := h
        refine jv_if_ne (tgt := 123) C hr_116 dL_law_116 rfl (fun hc_116 => ?_) (fun hc_116 => ?_)
        · replace h := h1_116 hc_116
          refine jv_iload C dL_law_123 rfl ?_
          refine jv_const C dL_law_125 ?_
          refine jv_ishr C dL_law_126 ?_
          refine jv_iload C dL_law_127 rfl ?_
          refine jv_callSi C (M_L_low h) kw_L_52 rfl ⟨rfl, rfl⟩ (st := []) rfl rfl ⟨Nat.ble_eq_true_of_le (by show _ ≤ 600104; omega), Nat.ble_eq_true_of_le (by show _ ≤ 7301314; omega)⟩ dL_law_129 (fun r_129 g_129 h => ?_)
          refine jv_wd (k := cb + 0) (n := sb + 0) (Nat.ble_eq_true_of_le (by omega)) (Nat.ble_eq_true_of_le (by omega)) ?_
          exact jv_less (ls' := [some (.ref b0), some (.ref (s0.heap.size + (0 : Int).toNat)), some (jv_i nw), some (jv_i nc), some (jv_i np), some (jv_i ns), none, some (jv_i tu), some (jv_i nn), some (jv_i r_91), some (jv_i y0_112), none, none, none, none, none, none]) ⟨rfl, ⟨rfl, ⟨rfl, ⟨rfl, ⟨rfl, ⟨rfl, ⟨rfl, ⟨rfl, ⟨rfl, ⟨rfl, trivial⟩⟩⟩⟩⟩⟩⟩⟩⟩⟩ (hJ132 _ _ h)
        · replace h := h2_116 hc_116
          refine jv_const C dL_law_119 ?_
          refine jv_goto (tgt := 132) C dL_law_120 rfl ?_
          refine jv_wd (k := cb + 0) (n := sb + 0) (Nat.ble_eq_true_of_le (by omega)) (Nat.ble_eq_true_of_le (by omega)) ?_
          exact jv_less (ls' := [some (.ref b0), some (.ref (s0.heap.size + (0 : Int).toNat)), some (jv_i nw), some (jv_i nc), some (jv_i np), some (jv_i ns), none, some (jv_i tu), some (jv_i nn), some (jv_i r_91), some (jv_i y0_112), none, none, none, none, none, none]) ⟨rfl, ⟨rfl, ⟨rfl, ⟨rfl, ⟨rfl, ⟨rfl, ⟨rfl, ⟨rfl, ⟨rfl, ⟨rfl, trivial⟩⟩⟩⟩⟩⟩⟩⟩⟩⟩ (hJ132 _ _ h)
      obtain ⟨hr_97, h1_97, h2_97⟩ := h
      refine jv_if_ne (tgt := 104) C hr_97 dL_law_97 rfl (fun hc_97 => ?_) (fun hc_97 => ?_)
      · replace h := h1_97 hc_97
        refine jv_iload C dL_law_104 rfl ?_
        refine jv_const C dL_law_106 ?_
        refine jv_ishr C dL_law_107 ?_
        refine jv_iload_n C dL_law_108 rfl ?_
        refine jv_callSi C (M_L_low h) kw_L_52 rfl ⟨rfl, rfl⟩ (st := []) rfl rfl ⟨Nat.ble_eq_true_of_le (by show _ ≤ 600104; omega), Nat.ble_eq_true_of_le (by show _ ≤ 7301314; omega)⟩ dL_law_109 (fun r_109 g_109 h => ?_)
        refine jv_wd (k := cb + 0) (n := sb + 0) (Nat.ble_eq_true_of_le (by omega)) (Nat.ble_eq_true_of_le (by omega)) ?_
        exact jv_less (ls' := [some (.ref b0), some (.ref (s0.heap.size + (0 : Int).toNat)), some (jv_i nw), some (jv_i nc), some (jv_i np), some (jv_i ns), none, some (jv_i tu), some (jv_i nn), some (jv_i r_91), none, none, none, none, none, none, none]) ⟨rfl, ⟨rfl, ⟨rfl, ⟨rfl, ⟨rfl, ⟨rfl, ⟨rfl, ⟨rfl, ⟨rfl, trivial⟩⟩⟩⟩⟩⟩⟩⟩⟩ (hJ112 _ _ h)
      · replace h := h2_97 hc_97
        refine jv_const C dL_law_100 ?_
        refine jv_goto (tgt := 112) C dL_law_101 rfl ?_
        refine jv_wd (k := cb + 0) (n := sb + 0) (Nat.ble_eq_true_of_le (by omega)) (Nat.ble_eq_true_of_le (by omega)) ?_
        exact jv_less (ls' := [some (.ref b0), some (.ref (s0.heap.size + (0 : Int).toNat)), some (jv_i nw), some (jv_i nc), some (jv_i np), some (jv_i ns), none, some (jv_i tu), some (jv_i nn), some (jv_i r_91), none, none, none, none, none, none, none]) ⟨rfl, ⟨rfl, ⟨rfl, ⟨rfl, ⟨rfl, ⟨rfl, ⟨rfl, ⟨rfl, ⟨rfl, trivial⟩⟩⟩⟩⟩⟩⟩⟩⟩ (hJ112 _ _ h)
