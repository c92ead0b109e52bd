def wp_X6_fixedLetter (a1 : Int) (Q : Int → jv_Mem → Prop) (g : jv_Mem) : Prop :=
  (((0 : Int) ≤ a1 ∧ a1 < (9 : Int)) ∧ Q (g 11 a1) g)
set_option maxHeartbeats 4000000 in
set_option maxRecDepth 100000 in
theorem M_X6_fixedLetter {l : Launch} {s0 : State} {b0 : Addr} {D : va_G} {ids : Nat → ClassId} {ex : Option Nat} {g : jv_Mem} {a1 : Int} {Q : Int → jv_Mem → Prop} (h : wp_X6_fixedLetter a1 Q g) : jv_M l s0 b0 D ids yX6_fixedLetter cX6_fixedLetter 2 (some .int) 0 0 0 0 ex jv_SH g [.ref (s0.heap.size + (10 : Int).toNat), jv_i a1] ex jv_SH (jv_qi Q) := by
  refine jv_M.of (by decide +kernel) rfl rfl (fun p e s m args below meth c C hml hr hlk hnm => ?_)
  replace C : jv_C p s m args c cX6_fixedLetter RX6 s0 b0 D ids := C
  show jv_V p l e (jv_rm 0 0 0 0) s m args below meth c 0 0 (jv_ZM below s0 D ids ex jv_SH (jv_qi Q) args s 0 0) s0 D ids ex jv_SH g 0 [some (.ref (s0.heap.size + (10 : Int).toNat)), some (jv_i a1)] []
  unfold wp_X6_fixedLetter at h
  refine jv_aload_n C dX6_fixedLetter_0 rfl ?_
  refine jv_getr C kf_X6_9 sS_10 rfl dX6_fixedLetter_1 ?_
  refine jv_iload_n C dX6_fixedLetter_4 rfl ?_
  obtain ⟨hb_5, h⟩ := h
  refine jv_iald C sS_11 rfl hb_5 dX6_fixedLetter_5 ?_
  exact jv_iret C hr hlk ⟨_, rfl, h⟩ dX6_fixedLetter_6 ⟨rfl, rfl⟩

def wp_X6_setFixed (a1 : Int) (a2 : Int) (Q : jv_Mem → Prop) (g : jv_Mem) : Prop :=
  (((0 : Int) ≤ a1 ∧ a1 < (9 : Int)) ∧ (∀ g_6 : jv_Mem, g_6 = jv_up g 11 a1 a2 → Q g_6))
set_option maxHeartbeats 4000000 in
set_option maxRecDepth 100000 in
theorem M_X6_setFixed {l : Launch} {s0 : State} {b0 : Addr} {D : va_G} {ids : Nat → ClassId} {ex : Option Nat} {g : jv_Mem} {a1 : Int} {a2 : Int} {Q : jv_Mem → Prop} (h : wp_X6_setFixed a1 a2 Q g) : jv_M l s0 b0 D ids yX6_setFixed cX6_setFixed 3 none 0 0 0 0 ex jv_SH g [.ref (s0.heap.size + (10 : Int).toNat), jv_i a1, jv_i a2] ex jv_SH (jv_qv Q) := by
  refine jv_M.of (by decide +kernel) rfl rfl (fun p e s m args below meth c C hml hr hlk hnm => ?_)
  replace C : jv_C p s m args c cX6_setFixed RX6 s0 b0 D ids := C
  show jv_V p l e (jv_rm 0 0 0 0) s m args below meth c 0 0 (jv_ZM below s0 D ids ex jv_SH (jv_qv Q) args s 0 0) s0 D ids ex jv_SH g 0 [some (.ref (s0.heap.size + (10 : Int).toNat)), some (jv_i a1), some (jv_i a2)] []
  unfold wp_X6_setFixed at h
  refine jv_aload_n C dX6_setFixed_0 rfl ?_
  refine jv_getr C kf_X6_9 sS_10 rfl dX6_setFixed_1 ?_
  refine jv_iload_n C dX6_setFixed_4 rfl ?_
  refine jv_iload_n C dX6_setFixed_5 rfl ?_
  obtain ⟨hb_6, h⟩ := h
  refine jv_iast C sS_11 rfl hb_6 dX6_setFixed_6 (jv_gm (fun g_6 eg_6 => ?_))
  replace h := h g_6 eg_6
  exact jv_vret C hr hlk ⟨rfl, h⟩ dX6_setFixed_7 ⟨rfl, rfl⟩

def wp_X6_bestWeight (Q : Int → jv_Mem → Prop) (g : jv_Mem) : Prop :=
  Q (g 10 3) g
set_option maxHeartbeats 4000000 in
set_option maxRecDepth 100000 in
theorem M_X6_bestWeight {l : Launch} {s0 : State} {b0 : Addr} {D : va_G} {ids : Nat → ClassId} {ex : Option Nat} {g : jv_Mem} {Q : Int → jv_Mem → Prop} (h : wp_X6_bestWeight Q g) : jv_M l s0 b0 D ids yX6_bestWeight cX6_bestWeight 1 (some .int) 0 0 0 0 ex jv_SH g [.ref (s0.heap.size + (10 : Int).toNat)] ex jv_SH (jv_qi Q) := by
  refine jv_M.of (by decide +kernel) rfl rfl (fun p e s m args below meth c C hml hr hlk hnm => ?_)
  replace C : jv_C p s m args c cX6_bestWeight RX6 s0 b0 D ids := C
  show jv_V p l e (jv_rm 0 0 0 0) s m args below meth c 0 0 (jv_ZM below s0 D ids ex jv_SH (jv_qi Q) args s 0 0) s0 D ids ex jv_SH g 0 [some (.ref (s0.heap.size + (10 : Int).toNat))] []
  unfold wp_X6_bestWeight at h
  refine jv_aload_n C dX6_bestWeight_0 rfl ?_
  refine jv_geti C kf_X6_27 sS_10 rfl dX6_bestWeight_1 ?_
  exact jv_iret C hr hlk ⟨_, rfl, h⟩ dX6_bestWeight_4 ⟨rfl, rfl⟩

def wp_X6_foundCount (Q : Int → jv_Mem → Prop) (g : jv_Mem) : Prop :=
  Q (g 10 4) g
set_option maxHeartbeats 4000000 in
set_option maxRecDepth 100000 in
theorem M_X6_foundCount {l : Launch} {s0 : State} {b0 : Addr} {D : va_G} {ids : Nat → ClassId} {ex : Option Nat} {g : jv_Mem} {Q : Int → jv_Mem → Prop} (h : wp_X6_foundCount Q g) : jv_M l s0 b0 D ids yX6_foundCount cX6_foundCount 1 (some .int) 0 0 0 0 ex jv_SH g [.ref (s0.heap.size + (10 : Int).toNat)] ex jv_SH (jv_qi Q) := by
  refine jv_M.of (by decide +kernel) rfl rfl (fun p e s m args below meth c C hml hr hlk hnm => ?_)
  replace C : jv_C p s m args c cX6_foundCount RX6 s0 b0 D ids := C
  show jv_V p l e (jv_rm 0 0 0 0) s m args below meth c 0 0 (jv_ZM below s0 D ids ex jv_SH (jv_qi Q) args s 0 0) s0 D ids ex jv_SH g 0 [some (.ref (s0.heap.size + (10 : Int).toNat))] []
  unfold wp_X6_foundCount at h
  refine jv_aload_n C dX6_foundCount_0 rfl ?_
  refine jv_geti C kf_X6_31 sS_10 rfl dX6_foundCount_1 ?_
  exact jv_iret C hr hlk ⟨_, rfl, h⟩ dX6_foundCount_4 ⟨rfl, rfl⟩

def wB_X6_agreesWithFixed_43 (K2 : Int → jv_Mem → Prop) (x3_2 : Int) (gj_43 : jv_Mem) : Prop :=
  (∀ v3_43 : Int, v3_43 = x3_2 + 1 → K2 v3_43 gj_43)
def wp_X6_agreesWithFixed (a2 : Int) (Q : Int → jv_Mem → Prop) (g : jv_Mem) : Prop :=
  jv_lp1 (fun (K2 : Int → jv_Mem → Prop) (x3_2 : Int) (gl_2 : jv_Mem) => ((jv_r x3_2) ∧ (3 ≤ x3_2 → Q 1 gl_2) ∧ (x3_2 < 3 → (((0 : Int) ≤ (a2 * 3) + x3_2 ∧ (a2 * 3) + x3_2 < (9 : Int)) ∧ (∀ v4_17 : Int, v4_17 = gl_2 11 ((a2 * 3) + x3_2) → ((jv_r v4_17) ∧ (v4_17 = ((-1)) → wB_X6_agreesWithFixed_43 K2 x3_2 gl_2) ∧ (¬ v4_17 = ((-1)) → (((0 : Int) ≤ a2 ∧ a2 < (3 : Int)) ∧ (wp_X7_letter (gl_2 12 a2) x3_2 (fun (r_35 : Int) (g_35 : jv_Mem) => ((jv_r v4_17 ∧ jv_r r_35) ∧ (v4_17 = r_35 → wB_X6_agreesWithFixed_43 K2 x3_2 g_35) ∧ (¬ v4_17 = r_35 → Q 0 g_35))) gl_2))))))))) 0 g
set_option maxHeartbeats 4000000 in
set_option maxRecDepth 100000 in
theorem M_X6_agreesWithFixed {l : Launch} {s0 : State} {b0 : Addr} {D : va_G} {ids : Nat → ClassId} {ex : Option Nat} {g : jv_Mem} {a2 : Int} {Q : Int → jv_Mem → Prop} (h : wp_X6_agreesWithFixed a2 Q g) : jv_M l s0 b0 D ids yX6_agreesWithFixed cX6_agreesWithFixed 5 (some .boolean) 1 22 0 0 ex jv_SH g [.ref (s0.heap.size + (10 : Int).toNat), .ref (s0.heap.size + (3 : Int).toNat), jv_i a2] ex jv_SH (jv_qi Q) := by
  refine jv_M.of (by decide +kernel) rfl rfl (fun p e s m args below meth c C hml hr hlk hnm => ?_)
  replace C : jv_C p s m args c cX6_agreesWithFixed RX6 s0 b0 D ids := C
  show jv_V p l e (jv_rm 1 22 0 0) s m args below meth c 0 0 (jv_ZM below s0 D ids ex jv_SH (jv_qi Q) args s 0 0) s0 D ids ex jv_SH g 0 [some (.ref (s0.heap.size + (10 : Int).toNat)), some (.ref (s0.heap.size + (3 : Int).toNat)), some (jv_i a2), none, none] []
  unfold wp_X6_agreesWithFixed at h
  refine jv_const C dX6_agreesWithFixed_0 ?_
  refine jv_istore_n (ls' := [some (.ref (s0.heap.size + (10 : Int).toNat)), some (.ref (s0.heap.size + (3 : Int).toNat)), some (jv_i a2), some (jv_i 0), none]) C dX6_agreesWithFixed_1 (Nat.lt_of_lt_of_eq (Nat.le_of_ble_eq_true rfl) hml) rfl ?_
  refine jv_less (ls' := [some (.ref (s0.heap.size + (10 : Int).toNat)), some (.ref (s0.heap.size + (3 : Int).toNat)), some (jv_i a2), some (jv_i 0), none]) ⟨rfl, ⟨rfl, ⟨rfl, ⟨rfl, trivial⟩⟩⟩⟩ ?_
  refine jv_lp1.use h (fun (x3_2 : Int) (gl_2 : jv_Mem) => jv_V p l e (jv_rm 1 22 0 0) s m args below meth c 0 0 (jv_ZM below s0 D ids ex jv_SH (jv_qi Q) args s 0 0) s0 D ids ex jv_SH gl_2 2 [some (.ref (s0.heap.size + (10 : Int).toNat)), some (.ref (s0.heap.size + (3 : Int).toNat)), some (jv_i a2), some (jv_i x3_2), none] []) ?_
  intro K2 hK2 x3_2 gl_2 h
  refine jv_iload_n C dX6_agreesWithFixed_2 rfl ?_
  refine jv_const C dX6_agreesWithFixed_3 ?_
  obtain ⟨hr_4, h1_4, h2_4⟩ := h
  refine jv_icmp_ge (tgt := 49) C hr_4 ⟨by decide, by decide⟩ dX6_agreesWithFixed_4 rfl (fun hc_4 => ?_) (fun hc_4 => ?_)
  · replace h := h1_4 hc_4
    refine jv_const C dX6_agreesWithFixed_49 ?_
    exact jv_zret C hr hlk rfl ⟨_, rfl, h⟩ dX6_agreesWithFixed_50 ⟨rfl, rfl⟩
  · replace h := h2_4 hc_4
    refine jv_aload_n C dX6_agreesWithFixed_7 rfl ?_
    refine jv_getr C kf_X6_9 sS_10 rfl dX6_agreesWithFixed_8 ?_
    refine jv_iload_n C dX6_agreesWithFixed_11 rfl ?_
    refine jv_const C dX6_agreesWithFixed_12 ?_
    refine jv_imul C dX6_agreesWithFixed_13 ?_
    refine jv_iload_n C dX6_agreesWithFixed_14 rfl ?_
    refine jv_iadd C dX6_agreesWithFixed_15 ?_
    obtain ⟨hb_16, h⟩ := h
    refine jv_iald C sS_11 rfl hb_16 dX6_agreesWithFixed_16 ?_
    refine jv_top (fun v4_17 ev4_17 => ?_)
    replace h := h v4_17 ev4_17
    refine jv_istore (ls' := [some (.ref (s0.heap.size + (10 : Int).toNat)), some (.ref (s0.heap.size + (3 : Int).toNat)), some (jv_i a2), some (jv_i x3_2), some (jv_i v4_17)]) C dX6_agreesWithFixed_17 (Nat.lt_of_lt_of_eq (Nat.le_of_ble_eq_true rfl) hml) rfl ?_
    refine jv_iload C dX6_agreesWithFixed_19 rfl ?_
    refine jv_const C dX6_agreesWithFixed_21 ?_
    have hJ43 : ∀ (gj_43 : jv_Mem), wB_X6_agreesWithFixed_43 K2 x3_2 gj_43 → jv_V p l e (jv_rm 1 22 0 0) s m args below meth c 0 0 (jv_ZM below s0 D ids ex jv_SH (jv_qi Q) args s 0 0) s0 D ids ex jv_SH gj_43 43 [some (.ref (s0.heap.size + (10 : Int).toNat)), some (.ref (s0.heap.size + (3 : Int).toNat)), some (jv_i a2), some (jv_i x3_2), none] [] := by
      intro gj_43 h
      unfold wB_X6_agreesWithFixed_43 at h
      refine jv_iincn C dX6_agreesWithFixed_43 (Nat.lt_of_lt_of_eq (Nat.le_of_ble_eq_true rfl) hml) rfl (fun v3_43 ev3_43 => ?_)
      replace h := h v3_43 ev3_43
      refine jv_lset (ls' := [some (.ref (s0.heap.size + (10 : Int).toNat)), some (.ref (s0.heap.size + (3 : Int).toNat)), some (jv_i a2), some (jv_i v3_43), none]) rfl ?_
      refine jv_goto (tgt := 2) C dX6_agreesWithFixed_46 rfl ?_
      exact jv_less (ls' := [some (.ref (s0.heap.size + (10 : Int).toNat)), some (.ref (s0.heap.size + (3 : Int).toNat)), some (jv_i a2), some (jv_i v3_43), none]) ⟨rfl, ⟨rfl, ⟨rfl, ⟨rfl, trivial⟩⟩⟩⟩ (hK2 _ _ h)
    obtain ⟨hr_22, h1_22, h2_22⟩ := h
    refine jv_icmp_eq (tgt := 43) C hr_22 ⟨by decide, by decide⟩ dX6_agreesWithFixed_22 rfl (fun hc_22 => ?_) (fun hc_22 => ?_)
    · replace h := h1_22 hc_22
      exact jv_less (ls' := [some (.ref (s0.heap.size + (10 : Int).toNat)), some (.ref (s0.heap.size + (3 : Int).toNat)), some (jv_i a2), some (jv_i x3_2), none]) ⟨rfl, ⟨rfl, ⟨rfl, ⟨rfl, trivial⟩⟩⟩⟩ (hJ43 _ h)
    · replace h := h2_22 hc_22
      refine jv_iload C dX6_agreesWithFixed_25 rfl ?_
      refine jv_aload_n C dX6_agreesWithFixed_27 rfl ?_
      refine jv_aload_n C dX6_agreesWithFixed_28 rfl ?_
      refine jv_getr C kf_X6_15 sS_10 rfl dX6_agreesWithFixed_29 ?_
      refine jv_iload_n C dX6_agreesWithFixed_32 rfl ?_
      obtain ⟨hb_33, h⟩ := h
      refine jv_iald C sS_12 rfl hb_33 dX6_agreesWithFixed_33 ?_
      refine jv_iload_n C dX6_agreesWithFixed_34 rfl ?_
      refine jv_callVi C (M_X7_letter h) kw_X6_79 sS_3 rfl rfl ⟨rfl, rfl⟩ (st := [jv_i v4_17]) rfl rfl ⟨rfl, rfl⟩ dX6_agreesWithFixed_35 (fun r_35 g_35 h => ?_)
      obtain ⟨hr_38, h1_38, h2_38⟩ := h
      refine jv_icmp_eq (tgt := 43) C hr_38.1 hr_38.2 dX6_agreesWithFixed_38 rfl (fun hc_38 => ?_) (fun hc_38 => ?_)
      · replace h := h1_38 hc_38
        exact jv_less (ls' := [some (.ref (s0.heap.size + (10 : Int).toNat)), some (.ref (s0.heap.size + (3 : Int).toNat)), some (jv_i a2), some (jv_i x3_2), none]) ⟨rfl, ⟨rfl, ⟨rfl, ⟨rfl, trivial⟩⟩⟩⟩ (hJ43 _ h)
      · replace h := h2_38 hc_38
        refine jv_const C dX6_agreesWithFixed_41 ?_
        exact jv_zret C hr hlk rfl ⟨_, rfl, h⟩ dX6_agreesWithFixed_42 ⟨rfl, rfl⟩

def wp_X6_columnCode (r1 : Int) (a2 : Int) (a3 : Int) (Q : Int → jv_Mem → Prop) (g : jv_Mem) : Prop :=
  jv_lp2 (fun (K6 : Int → Int → jv_Mem → Prop) (x4_6 x5_6 : Int) (gl_6 : jv_Mem) => ((jv_r x5_6 ∧ jv_r a3) ∧ (a3 ≤ x5_6 → Q x4_6 gl_6) ∧ (x5_6 < a3 → (((0 : Int) ≤ x5_6 ∧ x5_6 < (3 : Int)) ∧ (wp_X7_letter (gl_6 r1 x5_6) a2 (fun (r_23 : Int) (g_23 : jv_Mem) => (∀ v4_27 : Int, v4_27 = (x4_6 * 9) + r_23 → (∀ v5_29 : Int, v5_29 = x5_6 + 1 → K6 v4_27 v5_29 g_23))) gl_6))))) 1 0 g
set_option maxHeartbeats 4000000 in
set_option maxRecDepth 100000 in
theorem M_X6_columnCode {l : Launch} {s0 : State} {b0 : Addr} {D : va_G} {ids : Nat → ClassId} {ex : Option Nat} {g : jv_Mem} {r1 : Int} {a2 : Int} {a3 : Int} {Q : Int → jv_Mem → Prop} (hr1 : jv_SH r1 = some (.inl (0, 3, 0))) (h : wp_X6_columnCode r1 a2 a3 Q g) : jv_M l s0 b0 D ids yX6_columnCode cX6_columnCode 6 (some .int) 1 22 0 0 ex jv_SH g [.ref (s0.heap.size + (3 : Int).toNat), .ref (s0.heap.size + (r1 : Int).toNat), jv_i a2, jv_i a3] ex jv_SH (jv_qi Q) := by
  refine jv_M.of (by decide +kernel) rfl rfl (fun p e s m args below meth c C hml hr hlk hnm => ?_)
  replace C : jv_C p s m args c cX6_columnCode RX6 s0 b0 D ids := C
  show jv_V p l e (jv_rm 1 22 0 0) s m args below meth c 0 0 (jv_ZM below s0 D ids ex jv_SH (jv_qi Q) args s 0 0) s0 D ids ex jv_SH g 0 [some (.ref (s0.heap.size + (3 : Int).toNat)), some (.ref (s0.heap.size + (r1 : Int).toNat)), some (jv_i a2), some (jv_i a3), none, none] []
  unfold wp_X6_columnCode at h
  refine jv_const C dX6_columnCode_0 ?_
  refine jv_istore (ls' := [some (.ref (s0.heap.size + (3 : Int).toNat)), some (.ref (s0.heap.size + (r1 : Int).toNat)), some (jv_i a2), some (jv_i a3), some (jv_i 1), none]) C dX6_columnCode_1 (Nat.lt_of_lt_of_eq (Nat.le_of_ble_eq_true rfl) hml) rfl ?_
  refine jv_const C dX6_columnCode_3 ?_
  refine jv_istore (ls' := [some (.ref (s0.heap.size + (3 : Int).toNat)), some (.ref (s0.heap.size + (r1 : Int).toNat)), some (jv_i a2), some (jv_i a3), some (jv_i 1), some (jv_i 0)]) C dX6_columnCode_4 (Nat.lt_of_lt_of_eq (Nat.le_of_ble_eq_true rfl) hml) rfl ?_
  refine jv_less (ls' := [some (.ref (s0.heap.size + (3 : Int).toNat)), some (.ref (s0.heap.size + (r1 : Int).toNat)), some (jv_i a2), some (jv_i a3), some (jv_i 1), some (jv_i 0)]) ⟨rfl, ⟨rfl, ⟨rfl, ⟨rfl, ⟨rfl, ⟨rfl, trivial⟩⟩⟩⟩⟩⟩ ?_
  refine jv_lp2.use h (fun (x4_6 x5_6 : Int) (gl_6 : jv_Mem) => jv_V p l e (jv_rm 1 22 0 0) s m args below meth c 0 0 (jv_ZM below s0 D ids ex jv_SH (jv_qi Q) args s 0 0) s0 D ids ex jv_SH gl_6 6 [some (.ref (s0.heap.size + (3 : Int).toNat)), some (.ref (s0.heap.size + (r1 : Int).toNat)), some (jv_i a2), some (jv_i a3), some (jv_i x4_6), some (jv_i x5_6)] []) ?_
  intro K6 hK6 x4_6 x5_6 gl_6 h
  refine jv_iload C dX6_columnCode_6 rfl ?_
  refine jv_iload_n C dX6_columnCode_8 rfl ?_
  obtain ⟨hr_9, h1_9, h2_9⟩ := h
  refine jv_icmp_ge (tgt := 35) C hr_9.1 hr_9.2 dX6_columnCode_9 rfl (fun hc_9 => ?_) (fun hc_9 => ?_)
  · replace h := h1_9 hc_9
    refine jv_iload C dX6_columnCode_35 rfl ?_
    exact jv_iret C hr hlk ⟨_, rfl, h⟩ dX6_columnCode_37 ⟨rfl, rfl⟩
  · replace h := h2_9 hc_9
    refine jv_iload C dX6_columnCode_12 rfl ?_
    refine jv_bipush C dX6_columnCode_14 (by decide +kernel) ?_
    refine jv_imul C dX6_columnCode_16 ?_
    refine jv_aload_n C dX6_columnCode_17 rfl ?_
    refine jv_aload_n C dX6_columnCode_18 rfl ?_
    refine jv_iload C dX6_columnCode_19 rfl ?_
    obtain ⟨hb_21, h⟩ := h
    refine jv_iald C hr1 rfl hb_21 dX6_columnCode_21 ?_
    refine jv_iload_n C dX6_columnCode_22 rfl ?_
    refine jv_callVi C (M_X7_letter h) kw_X6_79 sS_3 rfl rfl ⟨rfl, rfl⟩ (st := [jv_i (x4_6 * 9)]) rfl rfl ⟨rfl, rfl⟩ dX6_columnCode_23 (fun r_23 g_23 h => ?_)
    refine jv_iadd C dX6_columnCode_26 ?_
    refine jv_top (fun v4_27 ev4_27 => ?_)
    replace h := h v4_27 ev4_27
    refine jv_istore (ls' := [some (.ref (s0.heap.size + (3 : Int).toNat)), some (.ref (s0.heap.size + (r1 : Int).toNat)), some (jv_i a2), some (jv_i a3), some (jv_i v4_27), some (jv_i x5_6)]) C dX6_columnCode_27 (Nat.lt_of_lt_of_eq (Nat.le_of_ble_eq_true rfl) hml) rfl ?_
    refine jv_iincn C dX6_columnCode_29 (Nat.lt_of_lt_of_eq (Nat.le_of_ble_eq_true rfl) hml) rfl (fun v5_29 ev5_29 => ?_)
    replace h := h v5_29 ev5_29
    refine jv_lset (ls' := [some (.ref (s0.heap.size + (3 : Int).toNat)), some (.ref (s0.heap.size + (r1 : Int).toNat)), some (jv_i a2), some (jv_i a3), some (jv_i v4_27), some (jv_i v5_29)]) rfl ?_
    refine jv_goto (tgt := 6) C dX6_columnCode_32 rfl ?_
    exact jv_less (ls' := [some (.ref (s0.heap.size + (3 : Int).toNat)), some (.ref (s0.heap.size + (r1 : Int).toNat)), some (jv_i a2), some (jv_i a3), some (jv_i v4_27), some (jv_i v5_29)]) ⟨rfl, ⟨rfl, ⟨rfl, ⟨rfl, ⟨rfl, ⟨rfl, trivial⟩⟩⟩⟩⟩⟩ (hK6 _ _ _ h)

def wp_X6_canStand (a2 : Int) (a3 : Int) (Q : Int → jv_Mem → Prop) (g : jv_Mem) : Prop :=
  (((0 : Int) ≤ a2 ∧ a2 < (3 : Int)) ∧ (∀ g_6 : jv_Mem, g_6 = jv_up g 12 a2 a3 → (wp_X6_agreesWithFixed a2 (fun (r_10 : Int) (g_10 : jv_Mem) => ((jv_r r_10) ∧ (¬ r_10 = 0 → jv_lp1 (fun (K21 : Int → jv_Mem → Prop) (x4_21 : Int) (gl_21 : jv_Mem) => ((jv_r x4_21) ∧ (3 ≤ x4_21 → Q 1 gl_21) ∧ (x4_21 < 3 → (wp_X6_columnCode 12 x4_21 (a2 + 1) (fun (r_38 : Int) (g_38 : jv_Mem) => (wp_X7_beginningWith r_38 (fun (r_41 : Int) (g_41 : jv_Mem) => ((jv_r r_41) ∧ (¬ r_41 = 0 → (∀ v4_49 : Int, v4_49 = x4_21 + 1 → K21 v4_49 g_41)) ∧ (r_41 = 0 → Q 0 g_41))) g_38)) gl_21)))) 0 g_10) ∧ (r_10 = 0 → Q 0 g_10))) g_6)))
set_option maxHeartbeats 4000000 in
set_option maxRecDepth 100000 in
theorem M_X6_canStand {l : Launch} {s0 : State} {b0 : Addr} {D : va_G} {ids : Nat → ClassId} {ex : Option Nat} {g : jv_Mem} {a2 : Int} {a3 : Int} {Q : Int → jv_Mem → Prop} (h : wp_X6_canStand a2 a3 Q g) : jv_M l s0 b0 D ids yX6_canStand cX6_canStand 5 (some .boolean) 2 47 0 0 ex jv_SH g [.ref (s0.heap.size + (10 : Int).toNat), .ref (s0.heap.size + (3 : Int).toNat), jv_i a2, jv_i a3] ex jv_SH (jv_qi Q) := by
  refine jv_M.of (by decide +kernel) rfl rfl (fun p e s m args below meth c C hml hr hlk hnm => ?_)
  replace C : jv_C p s m args c cX6_canStand RX6 s0 b0 D ids := C
  show jv_V p l e (jv_rm 2 47 0 0) s m args below meth c 0 0 (jv_ZM below s0 D ids ex jv_SH (jv_qi Q) args s 0 0) s0 D ids ex jv_SH g 0 [some (.ref (s0.heap.size + (10 : Int).toNat)), some (.ref (s0.heap.size + (3 : Int).toNat)), some (jv_i a2), some (jv_i a3), none] []
  unfold wp_X6_canStand at h
  refine jv_aload_n C dX6_canStand_0 rfl ?_
  refine jv_getr C kf_X6_15 sS_10 rfl dX6_canStand_1 ?_
  refine jv_iload_n C dX6_canStand_4 rfl ?_
  refine jv_iload_n C dX6_canStand_5 rfl ?_
  obtain ⟨hb_6, h⟩ := h
  refine jv_iast C sS_12 rfl hb_6 dX6_canStand_6 (jv_gm (fun g_6 eg_6 => ?_))
  replace h := h g_6 eg_6
  refine jv_aload_n C dX6_canStand_7 rfl ?_
  refine jv_aload_n C dX6_canStand_8 rfl ?_
  refine jv_iload_n C dX6_canStand_9 rfl ?_
  refine jv_callVi C (M_X6_agreesWithFixed h) kw_X6_56 sS_10 rfl rfl ⟨rfl, rfl⟩ (st := []) rfl rfl ⟨rfl, rfl⟩ dX6_canStand_10 (fun r_10 g_10 h => ?_)
  obtain ⟨hr_13, h1_13, h2_13⟩ := h
  refine jv_if_ne (tgt := 18) C hr_13 dX6_canStand_13 rfl (fun hc_13 => ?_) (fun hc_13 => ?_)
  · replace h := h1_13 hc_13
    refine jv_const C dX6_canStand_18 ?_
    refine jv_istore (ls' := [some (.ref (s0.heap.size + (10 : Int).toNat)), some (.ref (s0.heap.size + (3 : Int).toNat)), some (jv_i a2), some (jv_i a3), some (jv_i 0)]) C dX6_canStand_19 (Nat.lt_of_lt_of_eq (Nat.le_of_ble_eq_true rfl) hml) rfl ?_
    refine jv_less (ls' := [some (.ref (s0.heap.size + (10 : Int).toNat)), some (.ref (s0.heap.size + (3 : Int).toNat)), some (jv_i a2), none, some (jv_i 0)]) ⟨rfl, ⟨rfl, ⟨rfl, ⟨rfl, trivial⟩⟩⟩⟩ ?_
    refine jv_lp1.use h (fun (x4_21 : Int) (gl_21 : jv_Mem) => jv_V p l e (jv_rm 2 47 0 0) s m args below meth c 0 0 (jv_ZM below s0 D ids ex jv_SH (jv_qi Q) args s 0 0) s0 D ids ex jv_SH gl_21 21 [some (.ref (s0.heap.size + (10 : Int).toNat)), some (.ref (s0.heap.size + (3 : Int).toNat)), some (jv_i a2), none, some (jv_i x4_21)] []) ?_
    intro K21 hK21 x4_21 gl_21 h
    refine jv_iload C dX6_canStand_21 rfl ?_
    refine jv_const C dX6_canStand_23 ?_
    obtain ⟨hr_24, h1_24, h2_24⟩ := h
    refine jv_icmp_ge (tgt := 55) C hr_24 ⟨by decide, by decide⟩ dX6_canStand_24 rfl (fun hc_24 => ?_) (fun hc_24 => ?_)
    · replace h := h1_24 hc_24
      refine jv_const C dX6_canStand_55 ?_
      exact jv_zret C hr hlk rfl ⟨_, rfl, h⟩ dX6_canStand_56 ⟨rfl, rfl⟩
    · replace h := h2_24 hc_24
      refine jv_aload_n C dX6_canStand_27 rfl ?_
      refine jv_aload_n C dX6_canStand_28 rfl ?_
      refine jv_aload_n C dX6_canStand_29 rfl ?_
      refine jv_getr C kf_X6_15 sS_10 rfl dX6_canStand_30 ?_
      refine jv_iload C dX6_canStand_33 rfl ?_
      refine jv_iload_n C dX6_canStand_35 rfl ?_
      refine jv_const C dX6_canStand_36 ?_
      refine jv_iadd C dX6_canStand_37 ?_
      refine jv_callSi C (M_X6_columnCode sS_12 h) kw_X6_60 rfl ⟨rfl, rfl⟩ (st := [.ref (s0.heap.size + (3 : Int).toNat)]) rfl rfl ⟨rfl, rfl⟩ dX6_canStand_38 (fun r_38 g_38 h => ?_)
      refine jv_callVi C (M_X7_beginningWith h) kw_X6_64 sS_3 rfl rfl ⟨rfl, rfl⟩ (st := []) rfl rfl ⟨rfl, rfl⟩ dX6_canStand_41 (fun r_41 g_41 h => ?_)
      obtain ⟨hr_44, h1_44, h2_44⟩ := h
      refine jv_if_ne (tgt := 49) C hr_44 dX6_canStand_44 rfl (fun hc_44 => ?_) (fun hc_44 => ?_)
      · replace h := h1_44 hc_44
        refine jv_iincn C dX6_canStand_49 (Nat.lt_of_lt_of_eq (Nat.le_of_ble_eq_true rfl) hml) rfl (fun v4_49 ev4_49 => ?_)
        replace h := h v4_49 ev4_49
        refine jv_lset (ls' := [some (.ref (s0.heap.size + (10 : Int).toNat)), some (.ref (s0.heap.size + (3 : Int).toNat)), some (jv_i a2), none, some (jv_i v4_49)]) rfl ?_
        refine jv_goto (tgt := 21) C dX6_canStand_52 rfl ?_
        exact jv_less (ls' := [some (.ref (s0.heap.size + (10 : Int).toNat)), some (.ref (s0.heap.size + (3 : Int).toNat)), some (jv_i a2), none, some (jv_i v4_49)]) ⟨rfl, ⟨rfl, ⟨rfl, ⟨rfl, trivial⟩⟩⟩⟩ (hK21 _ _ h)
      · replace h := h2_44 hc_44
        refine jv_const C dX6_canStand_47 ?_
        exact jv_zret C hr hlk rfl ⟨_, rfl, h⟩ dX6_canStand_48 ⟨rfl, rfl⟩
  · replace h := h2_13 hc_13
    refine jv_const C dX6_canStand_16 ?_
    exact jv_zret C hr hlk rfl ⟨_, rfl, h⟩ dX6_canStand_17 ⟨rfl, rfl⟩

def wB_X6_weightOfSquare_53 (K4 : Int → Int → jv_Mem → Prop) (x3_4 : Int) (x2_53 : Int) (gj_53 : jv_Mem) : Prop :=
  (∀ v3_53 : Int, v3_53 = x3_4 + 1 → K4 x2_53 v3_53 gj_53)
def wp_X6_weightOfSquare (Q : Int → jv_Mem → Prop) (g : jv_Mem) : Prop :=
  jv_lp2 (fun (K4 : Int → Int → jv_Mem → Prop) (x2_4 x3_4 : Int) (gl_4 : jv_Mem) => ((jv_r x3_4) ∧ (3 ≤ x3_4 → Q x2_4 gl_4) ∧ (x3_4 < 3 → (((0 : Int) ≤ x3_4 ∧ x3_4 < (3 : Int)) ∧ (wp_X7_weight (gl_4 12 x3_4) (fun (r_17 : Int) (g_17 : jv_Mem) => (∀ v2_21 : Int, v2_21 = x2_4 + r_17 → (wp_X6_columnCode 12 x3_4 3 (fun (r_30 : Int) (g_30 : jv_Mem) => (wp_X7_wordOrNone r_30 (fun (r_33 : Int) (g_33 : jv_Mem) => ((jv_r r_33) ∧ (r_33 = ((-1)) → wB_X6_weightOfSquare_53 K4 x3_4 v2_21 g_33) ∧ (¬ r_33 = ((-1)) → (wp_X7_weight r_33 (fun (r_48 : Int) (g_48 : jv_Mem) => (∀ v2_52 : Int, v2_52 = v2_21 + r_48 → wB_X6_weightOfSquare_53 K4 x3_4 v2_52 g_48)) g_33)))) g_30)) g_17))) gl_4))))) 0 0 g
set_option maxHeartbeats 4000000 in
set_option maxRecDepth 100000 in
theorem M_X6_weightOfSquare {l : Launch} {s0 : State} {b0 : Addr} {D : va_G} {ids : Nat → ClassId} {ex : Option Nat} {g : jv_Mem} {Q : Int → jv_Mem → Prop} (h : wp_X6_weightOfSquare Q g) : jv_M l s0 b0 D ids yX6_weightOfSquare cX6_weightOfSquare 5 (some .int) 2 47 0 0 ex jv_SH g [.ref (s0.heap.size + (10 : Int).toNat), .ref (s0.heap.size + (3 : Int).toNat)] ex jv_SH (jv_qi Q) := by
  refine jv_M.of (by decide +kernel) rfl rfl (fun p e s m args below meth c C hml hr hlk hnm => ?_)
  replace C : jv_C p s m args c cX6_weightOfSquare RX6 s0 b0 D ids := C
  show jv_V p l e (jv_rm 2 47 0 0) s m args below meth c 0 0 (jv_ZM below s0 D ids ex jv_SH (jv_qi Q) args s 0 0) s0 D ids ex jv_SH g 0 [some (.ref (s0.heap.size + (10 : Int).toNat)), some (.ref (s0.heap.size + (3 : Int).toNat)), none, none, none] []
  unfold wp_X6_weightOfSquare at h
  refine jv_const C dX6_weightOfSquare_0 ?_
  refine jv_istore_n (ls' := [some (.ref (s0.heap.size + (10 : Int).toNat)), some (.ref (s0.heap.size + (3 : Int).toNat)), some (jv_i 0), none, none]) C dX6_weightOfSquare_1 (Nat.lt_of_lt_of_eq (Nat.le_of_ble_eq_true rfl) hml) rfl ?_
  refine jv_const C dX6_weightOfSquare_2 ?_
  refine jv_istore_n (ls' := [some (.ref (s0.heap.size + (10 : Int).toNat)), some (.ref (s0.heap.size + (3 : Int).toNat)), some (jv_i 0), some (jv_i 0), none]) C dX6_weightOfSquare_3 (Nat.lt_of_lt_of_eq (Nat.le_of_ble_eq_true rfl) hml) rfl ?_
  refine jv_less (ls' := [some (.ref (s0.heap.size + (10 : Int).toNat)), some (.ref (s0.heap.size + (3 : Int).toNat)), some (jv_i 0), some (jv_i 0), none]) ⟨rfl, ⟨rfl, ⟨rfl, ⟨rfl, trivial⟩⟩⟩⟩ ?_
  refine jv_lp2.use h (fun (x2_4 x3_4 : Int) (gl_4 : jv_Mem) => jv_V p l e (jv_rm 2 47 0 0) s m args below meth c 0 0 (jv_ZM below s0 D ids ex jv_SH (jv_qi Q) args s 0 0) s0 D ids ex jv_SH gl_4 4 [some (.ref (s0.heap.size + (10 : Int).toNat)), some (.ref (s0.heap.size + (3 : Int).toNat)), some (jv_i x2_4), some (jv_i x3_4), none] []) ?_
  intro K4 hK4 x2_4 x3_4 gl_4 h
  refine jv_iload_n C dX6_weightOfSquare_4 rfl ?_
  refine jv_const C dX6_weightOfSquare_5 ?_
  obtain ⟨hr_6, h1_6, h2_6⟩ := h
  refine jv_icmp_ge (tgt := 59) C hr_6 ⟨by decide, by decide⟩ dX6_weightOfSquare_6 rfl (fun hc_6 => ?_) (fun hc_6 => ?_)
  · replace h := h1_6 hc_6
    refine jv_iload_n C dX6_weightOfSquare_59 rfl ?_
    exact jv_iret C hr hlk ⟨_, rfl, h⟩ dX6_weightOfSquare_60 ⟨rfl, rfl⟩
  · replace h := h2_6 hc_6
    refine jv_iload_n C dX6_weightOfSquare_9 rfl ?_
    refine jv_aload_n C dX6_weightOfSquare_10 rfl ?_
    refine jv_aload_n C dX6_weightOfSquare_11 rfl ?_
    refine jv_getr C kf_X6_15 sS_10 rfl dX6_weightOfSquare_12 ?_
    refine jv_iload_n C dX6_weightOfSquare_15 rfl ?_
    obtain ⟨hb_16, h⟩ := h
    refine jv_iald C sS_12 rfl hb_16 dX6_weightOfSquare_16 ?_
    refine jv_callVi C (M_X7_weight h) kw_X6_82 sS_3 rfl rfl ⟨rfl, rfl⟩ (st := [jv_i x2_4]) rfl rfl ⟨rfl, rfl⟩ dX6_weightOfSquare_17 (fun r_17 g_17 h => ?_)
    refine jv_iadd C dX6_weightOfSquare_20 ?_
    refine jv_top (fun v2_21 ev2_21 => ?_)
    replace h := h v2_21 ev2_21
    refine jv_istore_n (ls' := [some (.ref (s0.heap.size + (10 : Int).toNat)), some (.ref (s0.heap.size + (3 : Int).toNat)), some (jv_i v2_21), some (jv_i x3_4), none]) C dX6_weightOfSquare_21 (Nat.lt_of_lt_of_eq (Nat.le_of_ble_eq_true rfl) hml) rfl ?_
    refine jv_aload_n C dX6_weightOfSquare_22 rfl ?_
    refine jv_aload_n C dX6_weightOfSquare_23 rfl ?_
    refine jv_aload_n C dX6_weightOfSquare_24 rfl ?_
    refine jv_getr C kf_X6_15 sS_10 rfl dX6_weightOfSquare_25 ?_
    refine jv_iload_n C dX6_weightOfSquare_28 rfl ?_
    refine jv_const C dX6_weightOfSquare_29 ?_
    refine jv_callSi C (M_X6_columnCode sS_12 h) kw_X6_60 rfl ⟨rfl, rfl⟩ (st := [.ref (s0.heap.size + (3 : Int).toNat)]) rfl rfl ⟨rfl, rfl⟩ dX6_weightOfSquare_30 (fun r_30 g_30 h => ?_)
    refine jv_callVi C (M_X7_wordOrNone h) kw_X6_76 sS_3 rfl rfl ⟨rfl, rfl⟩ (st := []) rfl rfl ⟨rfl, rfl⟩ dX6_weightOfSquare_33 (fun r_33 g_33 h => ?_)
    refine jv_istore (ls' := [some (.ref (s0.heap.size + (10 : Int).toNat)), some (.ref (s0.heap.size + (3 : Int).toNat)), some (jv_i v2_21), some (jv_i x3_4), some (jv_i r_33)]) C dX6_weightOfSquare_36 (Nat.lt_of_lt_of_eq (Nat.le_of_ble_eq_true rfl) hml) rfl ?_
    refine jv_iload C dX6_weightOfSquare_38 rfl ?_
    refine jv_const C dX6_weightOfSquare_40 ?_
    have hJ53 : ∀ (x2_53 : Int) (gj_53 : jv_Mem), wB_X6_weightOfSquare_53 K4 x3_4 x2_53 gj_53 → jv_V p l e (jv_rm 2 47 0 0) s m args below meth c 0 0 (jv_ZM below s0 D ids ex jv_SH (jv_qi Q) args s 0 0) s0 D ids ex jv_SH gj_53 53 [some (.ref (s0.heap.size + (10 : Int).toNat)), some (.ref (s0.heap.size + (3 : Int).toNat)), some (jv_i x2_53), some (jv_i x3_4), none] [] := by
      intro x2_53 gj_53 h
      unfold wB_X6_weightOfSquare_53 at h
      refine jv_iincn C dX6_weightOfSquare_53 (Nat.lt_of_lt_of_eq (Nat.le_of_ble_eq_true rfl) hml) rfl (fun v3_53 ev3_53 => ?_)
      replace h := h v3_53 ev3_53
      refine jv_lset (ls' := [some (.ref (s0.heap.size + (10 : Int).toNat)), some (.ref (s0.heap.size + (3 : Int).toNat)), some (jv_i x2_53), some (jv_i v3_53), none]) rfl ?_
      refine jv_goto (tgt := 4) C dX6_weightOfSquare_56 rfl ?_
      exact jv_less (ls' := [some (.ref (s0.heap.size + (10 : Int).toNat)), some (.ref (s0.heap.size + (3 : Int).toNat)), some (jv_i x2_53), some (jv_i v3_53), none]) ⟨rfl, ⟨rfl, ⟨rfl, ⟨rfl, trivial⟩⟩⟩⟩ (hK4 _ _ _ h)
    obtain ⟨hr_41, h1_41, h2_41⟩ := h
    refine jv_icmp_eq (tgt := 53) C hr_41 ⟨by decide, by decide⟩ dX6_weightOfSquare_41 rfl (fun hc_41 => ?_) (fun hc_41 => ?_)
    · replace h := h1_41 hc_41
      exact jv_less (ls' := [some (.ref (s0.heap.size + (10 : Int).toNat)), some (.ref (s0.heap.size + (3 : Int).toNat)), some (jv_i v2_21), some (jv_i x3_4), none]) ⟨rfl, ⟨rfl, ⟨rfl, ⟨rfl, trivial⟩⟩⟩⟩ (hJ53 _ _ h)
    · replace h := h2_41 hc_41
      refine jv_iload_n C dX6_weightOfSquare_44 rfl ?_
      refine jv_aload_n C dX6_weightOfSquare_45 rfl ?_
      refine jv_iload C dX6_weightOfSquare_46 rfl ?_
      refine jv_callVi C (M_X7_weight h) kw_X6_82 sS_3 rfl rfl ⟨rfl, rfl⟩ (st := [jv_i v2_21]) rfl rfl ⟨rfl, rfl⟩ dX6_weightOfSquare_48 (fun r_48 g_48 h => ?_)
      refine jv_iadd C dX6_weightOfSquare_51 ?_
      refine jv_top (fun v2_52 ev2_52 => ?_)
      replace h := h v2_52 ev2_52
      refine jv_istore_n (ls' := [some (.ref (s0.heap.size + (10 : Int).toNat)), some (.ref (s0.heap.size + (3 : Int).toNat)), some (jv_i v2_52), some (jv_i x3_4), some (jv_i r_33)]) C dX6_weightOfSquare_52 (Nat.lt_of_lt_of_eq (Nat.le_of_ble_eq_true rfl) hml) rfl ?_
      exact jv_less (ls' := [some (.ref (s0.heap.size + (10 : Int).toNat)), some (.ref (s0.heap.size + (3 : Int).toNat)), some (jv_i v2_52), some (jv_i x3_4), none]) ⟨rfl, ⟨rfl, ⟨rfl, ⟨rfl, trivial⟩⟩⟩⟩ (hJ53 _ _ h)

def wp_X6_keep (a1 : Int) (Q : jv_Mem → Prop) (g : jv_Mem) : Prop :=
  (∀ g_7 : jv_Mem, g_7 = jv_up g 10 4 ((g 10 4) + 1) → ((jv_r a1 ∧ jv_r (g_7 10 3)) ∧ (a1 ≤ (g_7 10 3) → Q g_7) ∧ ((g_7 10 3) < a1 → (∀ g_20 : jv_Mem, g_20 = jv_up g_7 10 3 a1 → jv_lp1 (fun (K25 : Int → jv_Mem → Prop) (x2_25 : Int) (gl_25 : jv_Mem) => ((jv_r x2_25) ∧ (3 ≤ x2_25 → Q gl_25) ∧ (x2_25 < 3 → (((0 : Int) ≤ x2_25 ∧ x2_25 < (3 : Int)) ∧ (((0 : Int) ≤ x2_25 ∧ x2_25 < (3 : Int)) ∧ (∀ g_41 : jv_Mem, g_41 = jv_up gl_25 13 x2_25 (gl_25 12 x2_25) → (∀ v2_42 : Int, v2_42 = x2_25 + 1 → K25 v2_42 g_41))))))) 0 g_20))))
set_option maxHeartbeats 4000000 in
set_option maxRecDepth 100000 in
theorem M_X6_keep {l : Launch} {s0 : State} {b0 : Addr} {D : va_G} {ids : Nat → ClassId} {ex : Option Nat} {g : jv_Mem} {a1 : Int} {Q : jv_Mem → Prop} (h : wp_X6_keep a1 Q g) : jv_M l s0 b0 D ids yX6_keep cX6_keep 3 none 0 0 0 0 ex jv_SH g [.ref (s0.heap.size + (10 : Int).toNat), jv_i a1] ex jv_SH (jv_qv Q) := by
  refine jv_M.of (by decide +kernel) rfl rfl (fun p e s m args below meth c C hml hr hlk hnm => ?_)
  replace C : jv_C p s m args c cX6_keep RX6 s0 b0 D ids := C
  show jv_V p l e (jv_rm 0 0 0 0) s m args below meth c 0 0 (jv_ZM below s0 D ids ex jv_SH (jv_qv Q) args s 0 0) s0 D ids ex jv_SH g 0 [some (.ref (s0.heap.size + (10 : Int).toNat)), some (jv_i a1), none] []
  unfold wp_X6_keep at h
  refine jv_aload_n C dX6_keep_0 rfl ?_
  refine jv_dup C rfl dX6_keep_1 ?_
  refine jv_geti C kf_X6_31 sS_10 rfl dX6_keep_2 ?_
  refine jv_const C dX6_keep_5 ?_
  refine jv_iadd C dX6_keep_6 ?_
  refine jv_puti C kf_X6_31 sS_10 rfl dX6_keep_7 (jv_gm (fun g_7 eg_7 => ?_))
  replace h := h g_7 eg_7
  refine jv_iload_n C dX6_keep_10 rfl ?_
  refine jv_aload_n C dX6_keep_11 rfl ?_
  refine jv_geti C kf_X6_27 sS_10 rfl dX6_keep_12 ?_
  obtain ⟨hr_15, h1_15, h2_15⟩ := h
  refine jv_icmp_le (tgt := 48) C hr_15.1 hr_15.2 dX6_keep_15 rfl (fun hc_15 => ?_) (fun hc_15 => ?_)
  · replace h := h1_15 hc_15
    exact jv_vret C hr hlk ⟨rfl, h⟩ dX6_keep_48 ⟨rfl, rfl⟩
  · replace h := h2_15 hc_15
    refine jv_aload_n C dX6_keep_18 rfl ?_
    refine jv_iload_n C dX6_keep_19 rfl ?_
    refine jv_puti C kf_X6_27 sS_10 rfl dX6_keep_20 (jv_gm (fun g_20 eg_20 => ?_))
    replace h := h g_20 eg_20
    refine jv_const C dX6_keep_23 ?_
    refine jv_istore_n (ls' := [some (.ref (s0.heap.size + (10 : Int).toNat)), some (jv_i a1), some (jv_i 0)]) C dX6_keep_24 (Nat.lt_of_lt_of_eq (Nat.le_of_ble_eq_true rfl) hml) rfl ?_
    refine jv_less (ls' := [some (.ref (s0.heap.size + (10 : Int).toNat)), none, some (jv_i 0)]) ⟨rfl, ⟨rfl, trivial⟩⟩ ?_
    refine jv_lp1.use h (fun (x2_25 : Int) (gl_25 : jv_Mem) => jv_V p l e (jv_rm 0 0 0 0) s m args below meth c 0 0 (jv_ZM below s0 D ids ex jv_SH (jv_qv Q) args s 0 0) s0 D ids ex jv_SH gl_25 25 [some (.ref (s0.heap.size + (10 : Int).toNat)), none, some (jv_i x2_25)] []) ?_
    intro K25 hK25 x2_25 gl_25 h
    refine jv_iload_n C dX6_keep_25 rfl ?_
    refine jv_const C dX6_keep_26 ?_
    obtain ⟨hr_27, h1_27, h2_27⟩ := h
    refine jv_icmp_ge (tgt := 48) C hr_27 ⟨by decide, by decide⟩ dX6_keep_27 rfl (fun hc_27 => ?_) (fun hc_27 => ?_)
    · replace h := h1_27 hc_27
      exact jv_vret C hr hlk ⟨rfl, h⟩ dX6_keep_48 ⟨rfl, rfl⟩
    · replace h := h2_27 hc_27
      refine jv_aload_n C dX6_keep_30 rfl ?_
      refine jv_getr C kf_X6_18 sS_10 rfl dX6_keep_31 ?_
      refine jv_iload_n C dX6_keep_34 rfl ?_
      refine jv_aload_n C dX6_keep_35 rfl ?_
      refine jv_getr C kf_X6_15 sS_10 rfl dX6_keep_36 ?_
      refine jv_iload_n C dX6_keep_39 rfl ?_
      obtain ⟨hb_40, h⟩ := h
      refine jv_iald C sS_12 rfl hb_40 dX6_keep_40 ?_
      obtain ⟨hb_41, h⟩ := h
      refine jv_iast C sS_13 rfl hb_41 dX6_keep_41 (jv_gm (fun g_41 eg_41 => ?_))
      replace h := h g_41 eg_41
      refine jv_iincn C dX6_keep_42 (Nat.lt_of_lt_of_eq (Nat.le_of_ble_eq_true rfl) hml) rfl (fun v2_42 ev2_42 => ?_)
      replace h := h v2_42 ev2_42
      refine jv_lset (ls' := [some (.ref (s0.heap.size + (10 : Int).toNat)), none, some (jv_i v2_42)]) rfl ?_
      refine jv_goto (tgt := 25) C dX6_keep_45 rfl ?_
      exact jv_less (ls' := [some (.ref (s0.heap.size + (10 : Int).toNat)), none, some (jv_i v2_42)]) ⟨rfl, ⟨rfl, trivial⟩⟩ (hK25 _ _ h)

def wB_X6_search_112 (K12 : Int → jv_Mem → Prop) (x2_12 : Int) (gj_112 : jv_Mem) : Prop :=
  (∀ v2_112 : Int, v2_112 = x2_12 + 1 → K12 v2_112 gj_112)
def wB_X6_search_106 (K39 : Int → jv_Mem → Prop) (x3_39 : Int) (gj_106 : jv_Mem) : Prop :=
  (∀ v3_106 : Int, v3_106 = x3_39 + 1 → K39 v3_106 gj_106)
def wB_X6_search_100 (K67 : Int → jv_Mem → Prop) (x4_67 : Int) (gj_100 : jv_Mem) : Prop :=
  (∀ v4_100 : Int, v4_100 = x4_67 + 1 → K67 v4_100 gj_100)
def wp_X6_search (Q : jv_Mem → Prop) (g : jv_Mem) : Prop :=
  (∀ g_2 : jv_Mem, g_2 = jv_up g 10 3 ((-1)) → (∀ g_7 : jv_Mem, g_7 = jv_up g_2 10 4 0 → jv_lp1 (fun (K12 : Int → jv_Mem → Prop) (x2_12 : Int) (gl_12 : jv_Mem) => (wp_X7_count (fun (r_14 : Int) (g_14 : jv_Mem) => ((jv_r x2_12 ∧ jv_r r_14) ∧ (r_14 ≤ x2_12 → Q g_14) ∧ (x2_12 < r_14 → (wp_X7_inOrder x2_12 (fun (r_25 : Int) (g_25 : jv_Mem) => (wp_X6_canStand 0 r_25 (fun (r_28 : Int) (g_28 : jv_Mem) => ((jv_r r_28) ∧ (¬ r_28 = 0 → jv_lp1 (fun (K39 : Int → jv_Mem → Prop) (x3_39 : Int) (gl_39 : jv_Mem) => (wp_X7_count (fun (r_41 : Int) (g_41 : jv_Mem) => ((jv_r x3_39 ∧ jv_r r_41) ∧ (r_41 ≤ x3_39 → wB_X6_search_112 K12 x2_12 g_41) ∧ (x3_39 < r_41 → (wp_X7_inOrder x3_39 (fun (r_52 : Int) (g_52 : jv_Mem) => (wp_X6_canStand 1 r_52 (fun (r_55 : Int) (g_55 : jv_Mem) => ((jv_r r_55) ∧ (¬ r_55 = 0 → jv_lp1 (fun (K67 : Int → jv_Mem → Prop) (x4_67 : Int) (gl_67 : jv_Mem) => (wp_X7_count (fun (r_70 : Int) (g_70 : jv_Mem) => ((jv_r x4_67 ∧ jv_r r_70) ∧ (r_70 ≤ x4_67 → wB_X6_search_106 K39 x3_39 g_70) ∧ (x4_67 < r_70 → (wp_X7_inOrder x4_67 (fun (r_82 : Int) (g_82 : jv_Mem) => (wp_X6_canStand 2 r_82 (fun (r_85 : Int) (g_85 : jv_Mem) => ((jv_r r_85) ∧ (r_85 = 0 → wB_X6_search_100 K67 x4_67 g_85) ∧ (¬ r_85 = 0 → (wp_X6_weightOfSquare (fun (r_94 : Int) (g_94 : jv_Mem) => (wp_X6_keep r_94 (fun (g_97 : jv_Mem) => wB_X6_search_100 K67 x4_67 g_97) g_94)) g_85)))) g_82)) g_70)))) gl_67)) 0 g_55) ∧ (r_55 = 0 → wB_X6_search_106 K39 x3_39 g_55))) g_52)) g_41)))) gl_39)) 0 g_28) ∧ (r_28 = 0 → wB_X6_search_112 K12 x2_12 g_28))) g_25)) g_14)))) gl_12)) 0 g_7))
set_option maxHeartbeats 4000000 in
set_option maxRecDepth 100000 in
theorem M_X6_search {l : Launch} {s0 : State} {b0 : Addr} {D : va_G} {ids : Nat → ClassId} {ex : Option Nat} {g : jv_Mem} {Q : jv_Mem → Prop} (h : wp_X6_search Q g) : jv_M l s0 b0 D ids yX6_search cX6_search 5 none 3 71 0 0 ex jv_SH g [.ref (s0.heap.size + (10 : Int).toNat), .ref (s0.heap.size + (3 : Int).toNat)] ex jv_SH (jv_qv Q) := by
  refine jv_M.of (by decide +kernel) rfl rfl (fun p e s m args below meth c C hml hr hlk hnm => ?_)
  replace C : jv_C p s m args c cX6_search RX6 s0 b0 D ids := C
  show jv_V p l e (jv_rm 3 71 0 0) s m args below meth c 0 0 (jv_ZM below s0 D ids ex jv_SH (jv_qv Q) args s 0 0) s0 D ids ex jv_SH g 0 [some (.ref (s0.heap.size + (10 : Int).toNat)), some (.ref (s0.heap.size + (3 : Int).toNat)), none, none, none] []
  unfold wp_X6_search at h
  refine jv_aload_n C dX6_search_0 rfl ?_
  refine jv_const C dX6_search_1 ?_
  refine jv_puti C kf_X6_27 sS_10 rfl dX6_search_2 (jv_gm (fun g_2 eg_2 => ?_))
  replace h := h g_2 eg_2
  refine jv_aload_n C dX6_search_5 rfl ?_
  refine jv_const C dX6_search_6 ?_
  refine jv_puti C kf_X6_31 sS_10 rfl dX6_search_7 (jv_gm (fun g_7 eg_7 => ?_))
  replace h := h g_7 eg_7
  refine jv_const C dX6_search_10 ?_
  refine jv_istore_n (ls' := [some (.ref (s0.heap.size + (10 : Int).toNat)), some (.ref (s0.heap.size + (3 : Int).toNat)), some (jv_i 0), none, none]) C dX6_search_11 (Nat.lt_of_lt_of_eq (Nat.le_of_ble_eq_true rfl) hml) rfl ?_
  refine jv_less (ls' := [some (.ref (s0.heap.size + (10 : Int).toNat)), some (.ref (s0.heap.size + (3 : Int).toNat)), some (jv_i 0), none, none]) ⟨rfl, ⟨rfl, ⟨rfl, trivial⟩⟩⟩ ?_
  refine jv_lp1.use h (fun (x2_12 : Int) (gl_12 : jv_Mem) => jv_V p l e (jv_rm 3 71 0 0) s m args below meth c 0 0 (jv_ZM below s0 D ids ex jv_SH (jv_qv Q) args s 0 0) s0 D ids ex jv_SH gl_12 12 [some (.ref (s0.heap.size + (10 : Int).toNat)), some (.ref (s0.heap.size + (3 : Int).toNat)), some (jv_i x2_12), none, none] []) ?_
  intro K12 hK12 x2_12 gl_12 h
  refine jv_iload_n C dX6_search_12 rfl ?_
  refine jv_aload_n C dX6_search_13 rfl ?_
  refine jv_callVi C (M_X7_count h) kw_X6_34 sS_3 rfl rfl ⟨rfl, rfl⟩ (st := [jv_i x2_12]) rfl rfl ⟨rfl, rfl⟩ dX6_search_14 (fun r_14 g_14 h => ?_)
  obtain ⟨hr_17, h1_17, h2_17⟩ := h
  refine jv_icmp_ge (tgt := 118) C hr_17.1 hr_17.2 dX6_search_17 rfl (fun hc_17 => ?_) (fun hc_17 => ?_)
  · replace h := h1_17 hc_17
    exact jv_vret C hr hlk ⟨rfl, h⟩ dX6_search_118 ⟨rfl, rfl⟩
  · replace h := h2_17 hc_17
    refine jv_aload_n C dX6_search_20 rfl ?_
    refine jv_aload_n C dX6_search_21 rfl ?_
    refine jv_const C dX6_search_22 ?_
    refine jv_aload_n C dX6_search_23 rfl ?_
    refine jv_iload_n C dX6_search_24 rfl ?_
    refine jv_callVi C (M_X7_inOrder h) kw_X6_40 sS_3 rfl rfl ⟨rfl, rfl⟩ (st := [jv_i 0, .ref (s0.heap.size + (3 : Int).toNat), .ref (s0.heap.size + (10 : Int).toNat)]) rfl rfl ⟨rfl, rfl⟩ dX6_search_25 (fun r_25 g_25 h => ?_)
    refine jv_callVi C (M_X6_canStand h) kw_X6_44 sS_10 rfl rfl ⟨rfl, rfl⟩ (st := []) rfl rfl ⟨rfl, rfl⟩ dX6_search_28 (fun r_28 g_28 h => ?_)
    have hJ112 : ∀ (gj_112 : jv_Mem), wB_X6_search_112 K12 x2_12 gj_112 → jv_V p l e (jv_rm 3 71 0 0) s m args below meth c 0 0 (jv_ZM below s0 D ids ex jv_SH (jv_qv Q) args s 0 0) s0 D ids ex jv_SH gj_112 112 [some (.ref (s0.heap.size + (10 : Int).toNat)), some (.ref (s0.heap.size + (3 : Int).toNat)), some (jv_i x2_12), none, none] [] := by
      intro gj_112 h
      unfold wB_X6_search_112 at h
      refine jv_iincn C dX6_search_112 (Nat.lt_of_lt_of_eq (Nat.le_of_ble_eq_true rfl) hml) rfl (fun v2_112 ev2_112 => ?_)
      replace h := h v2_112 ev2_112
      refine jv_lset (ls' := [some (.ref (s0.heap.size + (10 : Int).toNat)), some (.ref (s0.heap.size + (3 : Int).toNat)), some (jv_i v2_112), none, none]) rfl ?_
      refine jv_goto (tgt := 12) C dX6_search_115 rfl ?_
      exact jv_less (ls' := [some (.ref (s0.heap.size + (10 : Int).toNat)), some (.ref (s0.heap.size + (3 : Int).toNat)), some (jv_i v2_112), none, none]) ⟨rfl, ⟨rfl, ⟨rfl, trivial⟩⟩⟩ (hK12 _ _ h)
    obtain ⟨hr_31, h1_31, h2_31⟩ := h
    refine jv_if_ne (tgt := 37) C hr_31 dX6_search_31 rfl (fun hc_31 => ?_) (fun hc_31 => ?_)
    · replace h := h1_31 hc_31
      refine jv_const C dX6_search_37 ?_
      refine jv_istore_n (ls' := [some (.ref (s0.heap.size + (10 : Int).toNat)), some (.ref (s0.heap.size + (3 : Int).toNat)), some (jv_i x2_12), some (jv_i 0), none]) C dX6_search_38 (Nat.lt_of_lt_of_eq (Nat.le_of_ble_eq_true rfl) hml) rfl ?_
      refine jv_less (ls' := [some (.ref (s0.heap.size + (10 : Int).toNat)), some (.ref (s0.heap.size + (3 : Int).toNat)), some (jv_i x2_12), some (jv_i 0), none]) ⟨rfl, ⟨rfl, ⟨rfl, ⟨rfl, trivial⟩⟩⟩⟩ ?_
      refine jv_lp1.use h (fun (x3_39 : Int) (gl_39 : jv_Mem) => jv_V p l e (jv_rm 3 71 0 0) s m args below meth c 0 0 (jv_ZM below s0 D ids ex jv_SH (jv_qv Q) args s 0 0) s0 D ids ex jv_SH gl_39 39 [some (.ref (s0.heap.size + (10 : Int).toNat)), some (.ref (s0.heap.size + (3 : Int).toNat)), some (jv_i x2_12), some (jv_i x3_39), none] []) ?_
      intro K39 hK39 x3_39 gl_39 h
      refine jv_iload_n C dX6_search_39 rfl ?_
      refine jv_aload_n C dX6_search_40 rfl ?_
      refine jv_callVi C (M_X7_count h) kw_X6_34 sS_3 rfl rfl ⟨rfl, rfl⟩ (st := [jv_i x3_39]) rfl rfl ⟨rfl, rfl⟩ dX6_search_41 (fun r_41 g_41 h => ?_)
      obtain ⟨hr_44, h1_44, h2_44⟩ := h
      refine jv_icmp_ge (tgt := 112) C hr_44.1 hr_44.2 dX6_search_44 rfl (fun hc_44 => ?_) (fun hc_44 => ?_)
      · replace h := h1_44 hc_44
        exact jv_less (ls' := [some (.ref (s0.heap.size + (10 : Int).toNat)), some (.ref (s0.heap.size + (3 : Int).toNat)), some (jv_i x2_12), none, none]) ⟨rfl, ⟨rfl, ⟨rfl, trivial⟩⟩⟩ (hJ112 _ h)
      · replace h := h2_44 hc_44
        refine jv_aload_n C dX6_search_47 rfl ?_
        refine jv_aload_n C dX6_search_48 rfl ?_
        refine jv_const C dX6_search_49 ?_
        refine jv_aload_n C dX6_search_50 rfl ?_
        refine jv_iload_n C dX6_search_51 rfl ?_
        refine jv_callVi C (M_X7_inOrder h) kw_X6_40 sS_3 rfl rfl ⟨rfl, rfl⟩ (st := [jv_i 1, .ref (s0.heap.size + (3 : Int).toNat), .ref (s0.heap.size + (10 : Int).toNat)]) rfl rfl ⟨rfl, rfl⟩ dX6_search_52 (fun r_52 g_52 h => ?_)
        refine jv_callVi C (M_X6_canStand h) kw_X6_44 sS_10 rfl rfl ⟨rfl, rfl⟩ (st := []) rfl rfl ⟨rfl, rfl⟩ dX6_search_55 (fun r_55 g_55 h => ?_)
        have hJ106 : ∀ (gj_106 : jv_Mem), wB_X6_search_106 K39 x3_39 gj_106 → jv_V p l e (jv_rm 3 71 0 0) s m args below meth c 0 0 (jv_ZM below s0 D ids ex jv_SH (jv_qv Q) args s 0 0) s0 D ids ex jv_SH gj_106 106 [some (.ref (s0.heap.size + (10 : Int).toNat)), some (.ref (s0.heap.size + (3 : Int).toNat)), some (jv_i x2_12), some (jv_i x3_39), none] [] := by
          intro gj_106 h
          unfold wB_X6_search_106 at h
          refine jv_iincn C dX6_search_106 (Nat.lt_of_lt_of_eq (Nat.le_of_ble_eq_true rfl) hml) rfl (fun v3_106 ev3_106 => ?_)
          replace h := h v3_106 ev3_106
          refine jv_lset (ls' := [some (.ref (s0.heap.size + (10 : Int).toNat)), some (.ref (s0.heap.size + (3 : Int).toNat)), some (jv_i x2_12), some (jv_i v3_106), none]) rfl ?_
          refine jv_goto (tgt := 39) C dX6_search_109 rfl ?_
          exact jv_less (ls' := [some (.ref (s0.heap.size + (10 : Int).toNat)), some (.ref (s0.heap.size + (3 : Int).toNat)), some (jv_i x2_12), some (jv_i v3_106), none]) ⟨rfl, ⟨rfl, ⟨rfl, ⟨rfl, trivial⟩⟩⟩⟩ (hK39 _ _ h)
        obtain ⟨hr_58, h1_58, h2_58⟩ := h
        refine jv_if_ne (tgt := 64) C hr_58 dX6_search_58 rfl (fun hc_58 => ?_) (fun hc_58 => ?_)
        · replace h := h1_58 hc_58
          refine jv_const C dX6_search_64 ?_
          refine jv_istore (ls' := [some (.ref (s0.heap.size + (10 : Int).toNat)), some (.ref (s0.heap.size + (3 : Int).toNat)), some (jv_i x2_12), some (jv_i x3_39), some (jv_i 0)]) C dX6_search_65 (Nat.lt_of_lt_of_eq (Nat.le_of_ble_eq_true rfl) hml) rfl ?_
          refine jv_less (ls' := [some (.ref (s0.heap.size + (10 : Int).toNat)), some (.ref (s0.heap.size + (3 : Int).toNat)), some (jv_i x2_12), some (jv_i x3_39), some (jv_i 0)]) ⟨rfl, ⟨rfl, ⟨rfl, ⟨rfl, ⟨rfl, trivial⟩⟩⟩⟩⟩ ?_
          refine jv_lp1.use h (fun (x4_67 : Int) (gl_67 : jv_Mem) => jv_V p l e (jv_rm 3 71 0 0) s m args below meth c 0 0 (jv_ZM below s0 D ids ex jv_SH (jv_qv Q) args s 0 0) s0 D ids ex jv_SH gl_67 67 [some (.ref (s0.heap.size + (10 : Int).toNat)), some (.ref (s0.heap.size + (3 : Int).toNat)), some (jv_i x2_12), some (jv_i x3_39), some (jv_i x4_67)] []) ?_
          intro K67 hK67 x4_67 gl_67 h
          refine jv_iload C dX6_search_67 rfl ?_
          refine jv_aload_n C dX6_search_69 rfl ?_
          refine jv_callVi C (M_X7_count h) kw_X6_34 sS_3 rfl rfl ⟨rfl, rfl⟩ (st := [jv_i x4_67]) rfl rfl ⟨rfl, rfl⟩ dX6_search_70 (fun r_70 g_70 h => ?_)
          obtain ⟨hr_73, h1_73, h2_73⟩ := h
          refine jv_icmp_ge (tgt := 106) C hr_73.1 hr_73.2 dX6_search_73 rfl (fun hc_73 => ?_) (fun hc_73 => ?_)
          · replace h := h1_73 hc_73
            exact jv_less (ls' := [some (.ref (s0.heap.size + (10 : Int).toNat)), some (.ref (s0.heap.size + (3 : Int).toNat)), some (jv_i x2_12), some (jv_i x3_39), none]) ⟨rfl, ⟨rfl, ⟨rfl, ⟨rfl, trivial⟩⟩⟩⟩ (hJ106 _ h)
          · replace h := h2_73 hc_73
            refine jv_aload_n C dX6_search_76 rfl ?_
            refine jv_aload_n C dX6_search_77 rfl ?_
            refine jv_const C dX6_search_78 ?_
            refine jv_aload_n C dX6_search_79 rfl ?_
            refine jv_iload C dX6_search_80 rfl ?_
            refine jv_callVi C (M_X7_inOrder h) kw_X6_40 sS_3 rfl rfl ⟨rfl, rfl⟩ (st := [jv_i 2, .ref (s0.heap.size + (3 : Int).toNat), .ref (s0.heap.size + (10 : Int).toNat)]) rfl rfl ⟨rfl, rfl⟩ dX6_search_82 (fun r_82 g_82 h => ?_)
            refine jv_callVi C (M_X6_canStand h) kw_X6_44 sS_10 rfl rfl ⟨rfl, rfl⟩ (st := []) rfl rfl ⟨rfl, rfl⟩ dX6_search_85 (fun r_85 g_85 h => ?_)
            have hJ100 : ∀ (gj_100 : jv_Mem), wB_X6_search_100 K67 x4_67 gj_100 → jv_V p l e (jv_rm 3 71 0 0) s m args below meth c 0 0 (jv_ZM below s0 D ids ex jv_SH (jv_qv Q) args s 0 0) s0 D ids ex jv_SH gj_100 100 [some (.ref (s0.heap.size + (10 : Int).toNat)), some (.ref (s0.heap.size + (3 : Int).toNat)), some (jv_i x2_12), some (jv_i x3_39), some (jv_i x4_67)] [] := by
              intro gj_100 h
              unfold wB_X6_search_100 at h
              refine jv_iincn C dX6_search_100 (Nat.lt_of_lt_of_eq (Nat.le_of_ble_eq_true rfl) hml) rfl (fun v4_100 ev4_100 => ?_)
              replace h := h v4_100 ev4_100
              refine jv_lset (ls' := [some (.ref (s0.heap.size + (10 : Int).toNat)), some (.ref (s0.heap.size + (3 : Int).toNat)), some (jv_i x2_12), some (jv_i x3_39), some (jv_i v4_100)]) rfl ?_
              refine jv_goto (tgt := 67) C dX6_search_103 rfl ?_
              exact jv_less (ls' := [some (.ref (s0.heap.size + (10 : Int).toNat)), some (.ref (s0.heap.size + (3 : Int).toNat)), some (jv_i x2_12), some (jv_i x3_39), some (jv_i v4_100)]) ⟨rfl, ⟨rfl, ⟨rfl, ⟨rfl, ⟨rfl, trivial⟩⟩⟩⟩⟩ (hK67 _ _ h)
            obtain ⟨hr_88, h1_88, h2_88⟩ := h
            refine jv_if_eq (tgt := 100) C hr_88 dX6_search_88 rfl (fun hc_88 => ?_) (fun hc_88 => ?_)
            · replace h := h1_88 hc_88
              exact jv_less (ls' := [some (.ref (s0.heap.size + (10 : Int).toNat)), some (.ref (s0.heap.size + (3 : Int).toNat)), some (jv_i x2_12), some (jv_i x3_39), some (jv_i x4_67)]) ⟨rfl, ⟨rfl, ⟨rfl, ⟨rfl, ⟨rfl, trivial⟩⟩⟩⟩⟩ (hJ100 _ h)
            · replace h := h2_88 hc_88
              refine jv_aload_n C dX6_search_91 rfl ?_
              refine jv_aload_n C dX6_search_92 rfl ?_
              refine jv_aload_n C dX6_search_93 rfl ?_
              refine jv_callVi C (M_X6_weightOfSquare h) kw_X6_48 sS_10 rfl rfl ⟨rfl, rfl⟩ (st := [.ref (s0.heap.size + (10 : Int).toNat)]) rfl rfl ⟨rfl, rfl⟩ dX6_search_94 (fun r_94 g_94 h => ?_)
              refine jv_callVv C (M_X6_keep h) kw_X6_52 sS_10 rfl rfl ⟨rfl, rfl⟩ (st := []) rfl rfl ⟨rfl, rfl⟩ dX6_search_97 (fun g_97 h => ?_)
              exact jv_less (ls' := [some (.ref (s0.heap.size + (10 : Int).toNat)), some (.ref (s0.heap.size + (3 : Int).toNat)), some (jv_i x2_12), some (jv_i x3_39), some (jv_i x4_67)]) ⟨rfl, ⟨rfl, ⟨rfl, ⟨rfl, ⟨rfl, trivial⟩⟩⟩⟩⟩ (hJ100 _ h)
        · replace h := h2_58 hc_58
          refine jv_goto (tgt := 106) C dX6_search_61 rfl ?_
          exact jv_less (ls' := [some (.ref (s0.heap.size + (10 : Int).toNat)), some (.ref (s0.heap.size + (3 : Int).toNat)), some (jv_i x2_12), some (jv_i x3_39), none]) ⟨rfl, ⟨rfl, ⟨rfl, ⟨rfl, trivial⟩⟩⟩⟩ (hJ106 _ h)
    · replace h := h2_31 hc_31
      refine jv_goto (tgt := 112) C dX6_search_34 rfl ?_
      exact jv_less (ls' := [some (.ref (s0.heap.size + (10 : Int).toNat)), some (.ref (s0.heap.size + (3 : Int).toNat)), some (jv_i x2_12), none, none]) ⟨rfl, ⟨rfl, ⟨rfl, trivial⟩⟩⟩ (hJ112 _ h)

def wp_X6_weightIfFill (Q : Int → jv_Mem → Prop) (g : jv_Mem) : Prop :=
  jv_lp1 (fun (K2 : Int → jv_Mem → Prop) (x2_2 : Int) (gl_2 : jv_Mem) => ((jv_r x2_2) ∧ (3 ≤ x2_2 → jv_lp1 (fun (K26 : Int → jv_Mem → Prop) (x2_26 : Int) (gl_26 : jv_Mem) => ((jv_r x2_26) ∧ (3 ≤ x2_26 → (wp_X6_weightOfSquare (fun (r_59 : Int) (g_59 : jv_Mem) => Q r_59 g_59) gl_26)) ∧ (x2_26 < 3 → (wp_X6_columnCode 12 x2_26 3 (fun (r_39 : Int) (g_39 : jv_Mem) => (wp_X7_wordOrNone r_39 (fun (r_42 : Int) (g_42 : jv_Mem) => ((jv_r r_42) ∧ (¬ r_42 = ((-1)) → (∀ v2_51 : Int, v2_51 = x2_26 + 1 → K26 v2_51 g_42)) ∧ (r_42 = ((-1)) → Q ((-1)) g_42))) g_39)) gl_26)))) 0 gl_2) ∧ (x2_2 < 3 → (wp_X6_agreesWithFixed x2_2 (fun (r_10 : Int) (g_10 : jv_Mem) => ((jv_r r_10) ∧ (¬ r_10 = 0 → (∀ v2_18 : Int, v2_18 = x2_2 + 1 → K2 v2_18 g_10)) ∧ (r_10 = 0 → Q ((-1)) g_10))) gl_2)))) 0 g
set_option maxHeartbeats 4000000 in
set_option maxRecDepth 100000 in
theorem M_X6_weightIfFill {l : Launch} {s0 : State} {b0 : Addr} {D : va_G} {ids : Nat → ClassId} {ex : Option Nat} {g : jv_Mem} {Q : Int → jv_Mem → Prop} (h : wp_X6_weightIfFill Q g) : jv_M l s0 b0 D ids yX6_weightIfFill cX6_weightIfFill 3 (some .int) 3 71 0 0 ex jv_SH g [.ref (s0.heap.size + (10 : Int).toNat), .ref (s0.heap.size + (3 : Int).toNat)] ex jv_SH (jv_qi Q) := by
  refine jv_M.of (by decide +kernel) rfl rfl (fun p e s m args below meth c C hml hr hlk hnm => ?_)
  replace C : jv_C p s m args c cX6_weightIfFill RX6 s0 b0 D ids := C
  show jv_V p l e (jv_rm 3 71 0 0) s m args below meth c 0 0 (jv_ZM below s0 D ids ex jv_SH (jv_qi Q) args s 0 0) s0 D ids ex jv_SH g 0 [some (.ref (s0.heap.size + (10 : Int).toNat)), some (.ref (s0.heap.size + (3 : Int).toNat)), none] []
  unfold wp_X6_weightIfFill at h
  refine jv_const C dX6_weightIfFill_0 ?_
  refine jv_istore_n (ls' := [some (.ref (s0.heap.size + (10 : Int).toNat)), some (.ref (s0.heap.size + (3 : Int).toNat)), some (jv_i 0)]) C dX6_weightIfFill_1 (Nat.lt_of_lt_of_eq (Nat.le_of_ble_eq_true rfl) hml) rfl ?_
  refine jv_less (ls' := [some (.ref (s0.heap.size + (10 : Int).toNat)), some (.ref (s0.heap.size + (3 : Int).toNat)), some (jv_i 0)]) ⟨rfl, ⟨rfl, ⟨rfl, trivial⟩⟩⟩ ?_
  refine jv_lp1.use h (fun (x2_2 : Int) (gl_2 : jv_Mem) => jv_V p l e (jv_rm 3 71 0 0) s m args below meth c 0 0 (jv_ZM below s0 D ids ex jv_SH (jv_qi Q) args s 0 0) s0 D ids ex jv_SH gl_2 2 [some (.ref (s0.heap.size + (10 : Int).toNat)), some (.ref (s0.heap.size + (3 : Int).toNat)), some (jv_i x2_2)] []) ?_
  intro K2 hK2 x2_2 gl_2 h
  refine jv_iload_n C dX6_weightIfFill_2 rfl ?_
  refine jv_const C dX6_weightIfFill_3 ?_
  obtain ⟨hr_4, h1_4, h2_4⟩ := h
  refine jv_icmp_ge (tgt := 24) C hr_4 ⟨by decide, by decide⟩ dX6_weightIfFill_4 rfl (fun hc_4 => ?_) (fun hc_4 => ?_)
  · replace h := h1_4 hc_4
    refine jv_const C dX6_weightIfFill_24 ?_
    refine jv_istore_n (ls' := [some (.ref (s0.heap.size + (10 : Int).toNat)), some (.ref (s0.heap.size + (3 : Int).toNat)), some (jv_i 0)]) C dX6_weightIfFill_25 (Nat.lt_of_lt_of_eq (Nat.le_of_ble_eq_true rfl) hml) rfl ?_
    refine jv_less (ls' := [some (.ref (s0.heap.size + (10 : Int).toNat)), some (.ref (s0.heap.size + (3 : Int).toNat)), some (jv_i 0)]) ⟨rfl, ⟨rfl, ⟨rfl, trivial⟩⟩⟩ ?_
    refine jv_lp1.use h (fun (x2_26 : Int) (gl_26 : jv_Mem) => jv_V p l e (jv_rm 3 71 0 0) s m args below meth c 0 0 (jv_ZM below s0 D ids ex jv_SH (jv_qi Q) args s 0 0) s0 D ids ex jv_SH gl_26 26 [some (.ref (s0.heap.size + (10 : Int).toNat)), some (.ref (s0.heap.size + (3 : Int).toNat)), some (jv_i x2_26)] []) ?_
    intro K26 hK26 x2_26 gl_26 h
    refine jv_iload_n C dX6_weightIfFill_26 rfl ?_
    refine jv_const C dX6_weightIfFill_27 ?_
    obtain ⟨hr_28, h1_28, h2_28⟩ := h
    refine jv_icmp_ge (tgt := 57) C hr_28 ⟨by decide, by decide⟩ dX6_weightIfFill_28 rfl (fun hc_28 => ?_) (fun hc_28 => ?_)
    · replace h := h1_28 hc_28
      refine jv_aload_n C dX6_weightIfFill_57 rfl ?_
      refine jv_aload_n C dX6_weightIfFill_58 rfl ?_
      refine jv_callVi C (M_X6_weightOfSquare h) kw_X6_48 sS_10 rfl rfl ⟨rfl, rfl⟩ (st := []) rfl rfl ⟨rfl, rfl⟩ dX6_weightIfFill_59 (fun r_59 g_59 h => ?_)
      exact jv_iret C hr hlk ⟨_, rfl, h⟩ dX6_weightIfFill_62 ⟨rfl, rfl⟩
    · replace h := h2_28 hc_28
      refine jv_aload_n C dX6_weightIfFill_31 rfl ?_
      refine jv_aload_n C dX6_weightIfFill_32 rfl ?_
      refine jv_aload_n C dX6_weightIfFill_33 rfl ?_
      refine jv_getr C kf_X6_15 sS_10 rfl dX6_weightIfFill_34 ?_
      refine jv_iload_n C dX6_weightIfFill_37 rfl ?_
      refine jv_const C dX6_weightIfFill_38 ?_
      refine jv_callSi C (M_X6_columnCode sS_12 h) kw_X6_60 rfl ⟨rfl, rfl⟩ (st := [.ref (s0.heap.size + (3 : Int).toNat)]) rfl rfl ⟨rfl, rfl⟩ dX6_weightIfFill_39 (fun r_39 g_39 h => ?_)
      refine jv_callVi C (M_X7_wordOrNone h) kw_X6_76 sS_3 rfl rfl ⟨rfl, rfl⟩ (st := []) rfl rfl ⟨rfl, rfl⟩ dX6_weightIfFill_42 (fun r_42 g_42 h => ?_)
      refine jv_const C dX6_weightIfFill_45 ?_
      obtain ⟨hr_46, h1_46, h2_46⟩ := h
      refine jv_icmp_ne (tgt := 51) C hr_46 ⟨by decide, by decide⟩ dX6_weightIfFill_46 rfl (fun hc_46 => ?_) (fun hc_46 => ?_)
      · replace h := h1_46 hc_46
        refine jv_iincn C dX6_weightIfFill_51 (Nat.lt_of_lt_of_eq (Nat.le_of_ble_eq_true rfl) hml) rfl (fun v2_51 ev2_51 => ?_)
        replace h := h v2_51 ev2_51
        refine jv_lset (ls' := [some (.ref (s0.heap.size + (10 : Int).toNat)), some (.ref (s0.heap.size + (3 : Int).toNat)), some (jv_i v2_51)]) rfl ?_
        refine jv_goto (tgt := 26) C dX6_weightIfFill_54 rfl ?_
        exact jv_less (ls' := [some (.ref (s0.heap.size + (10 : Int).toNat)), some (.ref (s0.heap.size + (3 : Int).toNat)), some (jv_i v2_51)]) ⟨rfl, ⟨rfl, ⟨rfl, trivial⟩⟩⟩ (hK26 _ _ h)
      · replace h := h2_46 hc_46
        refine jv_const C dX6_weightIfFill_49 ?_
        exact jv_iret C hr hlk ⟨_, rfl, h⟩ dX6_weightIfFill_50 ⟨rfl, rfl⟩
  · replace h := h2_4 hc_4
    refine jv_aload_n C dX6_weightIfFill_7 rfl ?_
    refine jv_aload_n C dX6_weightIfFill_8 rfl ?_
    refine jv_iload_n C dX6_weightIfFill_9 rfl ?_
    refine jv_callVi C (M_X6_agreesWithFixed h) kw_X6_56 sS_10 rfl rfl ⟨rfl, rfl⟩ (st := []) rfl rfl ⟨rfl, rfl⟩ dX6_weightIfFill_10 (fun r_10 g_10 h => ?_)
    obtain ⟨hr_13, h1_13, h2_13⟩ := h
    refine jv_if_ne (tgt := 18) C hr_13 dX6_weightIfFill_13 rfl (fun hc_13 => ?_) (fun hc_13 => ?_)
    · replace h := h1_13 hc_13
      refine jv_iincn C dX6_weightIfFill_18 (Nat.lt_of_lt_of_eq (Nat.le_of_ble_eq_true rfl) hml) rfl (fun v2_18 ev2_18 => ?_)
      replace h := h v2_18 ev2_18
      refine jv_lset (ls' := [some (.ref (s0.heap.size + (10 : Int).toNat)), some (.ref (s0.heap.size + (3 : Int).toNat)), some (jv_i v2_18)]) rfl ?_
      refine jv_goto (tgt := 2) C dX6_weightIfFill_21 rfl ?_
      exact jv_less (ls' := [some (.ref (s0.heap.size + (10 : Int).toNat)), some (.ref (s0.heap.size + (3 : Int).toNat)), some (jv_i v2_18)]) ⟨rfl, ⟨rfl, ⟨rfl, trivial⟩⟩⟩ (hK2 _ _ h)
    · replace h := h2_13 hc_13
      refine jv_const C dX6_weightIfFill_16 ?_
      exact jv_iret C hr hlk ⟨_, rfl, h⟩ dX6_weightIfFill_17 ⟨rfl, rfl⟩

def wp_X6_greatestWeightOfAll (Q : Int → jv_Mem → Prop) (g : jv_Mem) : Prop :=
  jv_lp2 (fun (K4 : Int → Int → jv_Mem → Prop) (x2_4 x3_4 : Int) (gl_4 : jv_Mem) => (wp_X7_count (fun (r_6 : Int) (g_6 : jv_Mem) => ((jv_r x3_4 ∧ jv_r r_6) ∧ (r_6 ≤ x3_4 → Q x2_4 g_6) ∧ (x3_4 < r_6 → jv_lp2 (fun (K15 : Int → Int → jv_Mem → Prop) (x2_15 x4_15 : Int) (gl_15 : jv_Mem) => (wp_X7_count (fun (r_18 : Int) (g_18 : jv_Mem) => ((jv_r x4_15 ∧ jv_r r_18) ∧ (r_18 ≤ x4_15 → (∀ v3_81 : Int, v3_81 = x3_4 + 1 → K4 x2_15 v3_81 g_18)) ∧ (x4_15 < r_18 → jv_lp2 (fun (K27 : Int → Int → jv_Mem → Prop) (x2_27 x5_27 : Int) (gl_27 : jv_Mem) => (wp_X7_count (fun (r_30 : Int) (g_30 : jv_Mem) => ((jv_r x5_27 ∧ jv_r r_30) ∧ (r_30 ≤ x5_27 → (∀ v4_75 : Int, v4_75 = x4_15 + 1 → K15 x2_27 v4_75 g_30)) ∧ (x5_27 < r_30 → (((0 : Int) ≤ 0 ∧ 0 < (3 : Int)) ∧ (∀ g_42 : jv_Mem, g_42 = jv_up g_30 12 0 x3_4 → (((0 : Int) ≤ 1 ∧ 1 < (3 : Int)) ∧ (∀ g_50 : jv_Mem, g_50 = jv_up g_42 12 1 x4_15 → (((0 : Int) ≤ 2 ∧ 2 < (3 : Int)) ∧ (∀ g_58 : jv_Mem, g_58 = jv_up g_50 12 2 x5_27 → (wp_X6_weightIfFill (fun (r_62 : Int) (g_62 : jv_Mem) => ((jv_r x2_27 ∧ jv_r r_62) ∧ (∀ v2_68 : Int, v2_68 = (if x2_27 < r_62 then r_62 else x2_27) → (∀ v5_69 : Int, v5_69 = x5_27 + 1 → K27 v2_68 v5_69 g_62)))) g_58)))))))))) gl_27)) x2_15 0 g_18))) gl_15)) x2_4 0 g_6))) gl_4)) ((-1)) 0 g
set_option maxHeartbeats 4000000 in
set_option maxRecDepth 100000 in
theorem M_X6_greatestWeightOfAll {l : Launch} {s0 : State} {b0 : Addr} {D : va_G} {ids : Nat → ClassId} {ex : Option Nat} {g : jv_Mem} {Q : Int → jv_Mem → Prop} (h : wp_X6_greatestWeightOfAll Q g) : jv_M l s0 b0 D ids yX6_greatestWeightOfAll cX6_greatestWeightOfAll 6 (some .int) 4 93 0 0 ex jv_SH g [.ref (s0.heap.size + (10 : Int).toNat), .ref (s0.heap.size + (3 : Int).toNat)] ex jv_SH (jv_qi Q) := by
  refine jv_M.of (by decide +kernel) rfl rfl (fun p e s m args below meth c C hml hr hlk hnm => ?_)
  replace C : jv_C p s m args c cX6_greatestWeightOfAll RX6 s0 b0 D ids := C
  show jv_V p l e (jv_rm 4 93 0 0) s m args below meth c 0 0 (jv_ZM below s0 D ids ex jv_SH (jv_qi Q) args s 0 0) s0 D ids ex jv_SH g 0 [some (.ref (s0.heap.size + (10 : Int).toNat)), some (.ref (s0.heap.size + (3 : Int).toNat)), none, none, none, none] []
  unfold wp_X6_greatestWeightOfAll at h
  refine jv_const C dX6_greatestWeightOfAll_0 ?_
  refine jv_istore_n (ls' := [some (.ref (s0.heap.size + (10 : Int).toNat)), some (.ref (s0.heap.size + (3 : Int).toNat)), some (jv_i ((-1))), none, none, none]) C dX6_greatestWeightOfAll_1 (Nat.lt_of_lt_of_eq (Nat.le_of_ble_eq_true rfl) hml) rfl ?_
  refine jv_const C dX6_greatestWeightOfAll_2 ?_
  refine jv_istore_n (ls' := [some (.ref (s0.heap.size + (10 : Int).toNat)), some (.ref (s0.heap.size + (3 : Int).toNat)), some (jv_i ((-1))), some (jv_i 0), none, none]) C dX6_greatestWeightOfAll_3 (Nat.lt_of_lt_of_eq (Nat.le_of_ble_eq_true rfl) hml) rfl ?_
  refine jv_less (ls' := [some (.ref (s0.heap.size + (10 : Int).toNat)), some (.ref (s0.heap.size + (3 : Int).toNat)), some (jv_i ((-1))), some (jv_i 0), none, none]) ⟨rfl, ⟨rfl, ⟨rfl, ⟨rfl, trivial⟩⟩⟩⟩ ?_
  refine jv_lp2.use h (fun (x2_4 x3_4 : Int) (gl_4 : jv_Mem) => jv_V p l e (jv_rm 4 93 0 0) s m args below meth c 0 0 (jv_ZM below s0 D ids ex jv_SH (jv_qi Q) args s 0 0) s0 D ids ex jv_SH gl_4 4 [some (.ref (s0.heap.size + (10 : Int).toNat)), some (.ref (s0.heap.size + (3 : Int).toNat)), some (jv_i x2_4), some (jv_i x3_4), none, none] []) ?_
  intro K4 hK4 x2_4 x3_4 gl_4 h
  refine jv_iload_n C dX6_greatestWeightOfAll_4 rfl ?_
  refine jv_aload_n C dX6_greatestWeightOfAll_5 rfl ?_
  refine jv_callVi C (M_X7_count h) kw_X6_34 sS_3 rfl rfl ⟨rfl, rfl⟩ (st := [jv_i x3_4]) rfl rfl ⟨rfl, rfl⟩ dX6_greatestWeightOfAll_6 (fun r_6 g_6 h => ?_)
  obtain ⟨hr_9, h1_9, h2_9⟩ := h
  refine jv_icmp_ge (tgt := 87) C hr_9.1 hr_9.2 dX6_greatestWeightOfAll_9 rfl (fun hc_9 => ?_) (fun hc_9 => ?_)
  · replace h := h1_9 hc_9
    refine jv_iload_n C dX6_greatestWeightOfAll_87 rfl ?_
    exact jv_iret C hr hlk ⟨_, rfl, h⟩ dX6_greatestWeightOfAll_88 ⟨rfl, rfl⟩
  · replace h := h2_9 hc_9
    refine jv_const C dX6_greatestWeightOfAll_12 ?_
    refine jv_istore (ls' := [some (.ref (s0.heap.size + (10 : Int).toNat)), some (.ref (s0.heap.size + (3 : Int).toNat)), some (jv_i x2_4), some (jv_i x3_4), some (jv_i 0), none]) C dX6_greatestWeightOfAll_13 (Nat.lt_of_lt_of_eq (Nat.le_of_ble_eq_true rfl) hml) rfl ?_
    refine jv_less (ls' := [some (.ref (s0.heap.size + (10 : Int).toNat)), some (.ref (s0.heap.size + (3 : Int).toNat)), some (jv_i x2_4), some (jv_i x3_4), some (jv_i 0), none]) ⟨rfl, ⟨rfl, ⟨rfl, ⟨rfl, ⟨rfl, trivial⟩⟩⟩⟩⟩ ?_
    refine jv_lp2.use h (fun (x2_15 x4_15 : Int) (gl_15 : jv_Mem) => jv_V p l e (jv_rm 4 93 0 0) s m args below meth c 0 0 (jv_ZM below s0 D ids ex jv_SH (jv_qi Q) args s 0 0) s0 D ids ex jv_SH gl_15 15 [some (.ref (s0.heap.size + (10 : Int).toNat)), some (.ref (s0.heap.size + (3 : Int).toNat)), some (jv_i x2_15), some (jv_i x3_4), some (jv_i x4_15), none] []) ?_
    intro K15 hK15 x2_15 x4_15 gl_15 h
    refine jv_iload C dX6_greatestWeightOfAll_15 rfl ?_
    refine jv_aload_n C dX6_greatestWeightOfAll_17 rfl ?_
    refine jv_callVi C (M_X7_count h) kw_X6_34 sS_3 rfl rfl ⟨rfl, rfl⟩ (st := [jv_i x4_15]) rfl rfl ⟨rfl, rfl⟩ dX6_greatestWeightOfAll_18 (fun r_18 g_18 h => ?_)
    obtain ⟨hr_21, h1_21, h2_21⟩ := h
    refine jv_icmp_ge (tgt := 81) C hr_21.1 hr_21.2 dX6_greatestWeightOfAll_21 rfl (fun hc_21 => ?_) (fun hc_21 => ?_)
    · replace h := h1_21 hc_21
      refine jv_iincn C dX6_greatestWeightOfAll_81 (Nat.lt_of_lt_of_eq (Nat.le_of_ble_eq_true rfl) hml) rfl (fun v3_81 ev3_81 => ?_)
      replace h := h v3_81 ev3_81
      refine jv_lset (ls' := [some (.ref (s0.heap.size + (10 : Int).toNat)), some (.ref (s0.heap.size + (3 : Int).toNat)), some (jv_i x2_15), some (jv_i v3_81), some (jv_i x4_15), none]) rfl ?_
      refine jv_goto (tgt := 4) C dX6_greatestWeightOfAll_84 rfl ?_
      exact jv_less (ls' := [some (.ref (s0.heap.size + (10 : Int).toNat)), some (.ref (s0.heap.size + (3 : Int).toNat)), some (jv_i x2_15), some (jv_i v3_81), none, none]) ⟨rfl, ⟨rfl, ⟨rfl, ⟨rfl, trivial⟩⟩⟩⟩ (hK4 _ _ _ h)
    · replace h := h2_21 hc_21
      refine jv_const C dX6_greatestWeightOfAll_24 ?_
      refine jv_istore (ls' := [some (.ref (s0.heap.size + (10 : Int).toNat)), some (.ref (s0.heap.size + (3 : Int).toNat)), some (jv_i x2_15), some (jv_i x3_4), some (jv_i x4_15), some (jv_i 0)]) C dX6_greatestWeightOfAll_25 (Nat.lt_of_lt_of_eq (Nat.le_of_ble_eq_true rfl) hml) rfl ?_
      refine jv_less (ls' := [some (.ref (s0.heap.size + (10 : Int).toNat)), some (.ref (s0.heap.size + (3 : Int).toNat)), some (jv_i x2_15), some (jv_i x3_4), some (jv_i x4_15), some (jv_i 0)]) ⟨rfl, ⟨rfl, ⟨rfl, ⟨rfl, ⟨rfl, ⟨rfl, trivial⟩⟩⟩⟩⟩⟩ ?_
      refine jv_lp2.use h (fun (x2_27 x5_27 : Int) (gl_27 : jv_Mem) => jv_V p l e (jv_rm 4 93 0 0) s m args below meth c 0 0 (jv_ZM below s0 D ids ex jv_SH (jv_qi Q) args s 0 0) s0 D ids ex jv_SH gl_27 27 [some (.ref (s0.heap.size + (10 : Int).toNat)), some (.ref (s0.heap.size + (3 : Int).toNat)), some (jv_i x2_27), some (jv_i x3_4), some (jv_i x4_15), some (jv_i x5_27)] []) ?_
      intro K27 hK27 x2_27 x5_27 gl_27 h
      refine jv_iload C dX6_greatestWeightOfAll_27 rfl ?_
      refine jv_aload_n C dX6_greatestWeightOfAll_29 rfl ?_
      refine jv_callVi C (M_X7_count h) kw_X6_34 sS_3 rfl rfl ⟨rfl, rfl⟩ (st := [jv_i x5_27]) rfl rfl ⟨rfl, rfl⟩ dX6_greatestWeightOfAll_30 (fun r_30 g_30 h => ?_)
      obtain ⟨hr_33, h1_33, h2_33⟩ := h
      refine jv_icmp_ge (tgt := 75) C hr_33.1 hr_33.2 dX6_greatestWeightOfAll_33 rfl (fun hc_33 => ?_) (fun hc_33 => ?_)
      · replace h := h1_33 hc_33
        refine jv_iincn C dX6_greatestWeightOfAll_75 (Nat.lt_of_lt_of_eq (Nat.le_of_ble_eq_true rfl) hml) rfl (fun v4_75 ev4_75 => ?_)
        replace h := h v4_75 ev4_75
        refine jv_lset (ls' := [some (.ref (s0.heap.size + (10 : Int).toNat)), some (.ref (s0.heap.size + (3 : Int).toNat)), some (jv_i x2_27), some (jv_i x3_4), some (jv_i v4_75), some (jv_i x5_27)]) rfl ?_
        refine jv_goto (tgt := 15) C dX6_greatestWeightOfAll_78 rfl ?_
        exact jv_less (ls' := [some (.ref (s0.heap.size + (10 : Int).toNat)), some (.ref (s0.heap.size + (3 : Int).toNat)), some (jv_i x2_27), some (jv_i x3_4), some (jv_i v4_75), none]) ⟨rfl, ⟨rfl, ⟨rfl, ⟨rfl, ⟨rfl, trivial⟩⟩⟩⟩⟩ (hK15 _ _ _ h)
      · replace h := h2_33 hc_33
        refine jv_aload_n C dX6_greatestWeightOfAll_36 rfl ?_
        refine jv_getr C kf_X6_15 sS_10 rfl dX6_greatestWeightOfAll_37 ?_
        refine jv_const C dX6_greatestWeightOfAll_40 ?_
        refine jv_iload_n C dX6_greatestWeightOfAll_41 rfl ?_
        obtain ⟨hb_42, h⟩ := h
        refine jv_iast C sS_12 rfl hb_42 dX6_greatestWeightOfAll_42 (jv_gm (fun g_42 eg_42 => ?_))
        replace h := h g_42 eg_42
        refine jv_aload_n C dX6_greatestWeightOfAll_43 rfl ?_
        refine jv_getr C kf_X6_15 sS_10 rfl dX6_greatestWeightOfAll_44 ?_
        refine jv_const C dX6_greatestWeightOfAll_47 ?_
        refine jv_iload C dX6_greatestWeightOfAll_48 rfl ?_
        obtain ⟨hb_50, h⟩ := h
        refine jv_iast C sS_12 rfl hb_50 dX6_greatestWeightOfAll_50 (jv_gm (fun g_50 eg_50 => ?_))
        replace h := h g_50 eg_50
        refine jv_aload_n C dX6_greatestWeightOfAll_51 rfl ?_
        refine jv_getr C kf_X6_15 sS_10 rfl dX6_greatestWeightOfAll_52 ?_
        refine jv_const C dX6_greatestWeightOfAll_55 ?_
        refine jv_iload C dX6_greatestWeightOfAll_56 rfl ?_
        obtain ⟨hb_58, h⟩ := h
        refine jv_iast C sS_12 rfl hb_58 dX6_greatestWeightOfAll_58 (jv_gm (fun g_58 eg_58 => ?_))
        replace h := h g_58 eg_58
        refine jv_iload_n C dX6_greatestWeightOfAll_59 rfl ?_
        refine jv_aload_n C dX6_greatestWeightOfAll_60 rfl ?_
        refine jv_aload_n C dX6_greatestWeightOfAll_61 rfl ?_
        refine jv_callVi C (M_X6_weightIfFill h) kw_X6_67 sS_10 rfl rfl ⟨rfl, rfl⟩ (st := [jv_i x2_27]) rfl rfl ⟨rfl, rfl⟩ dX6_greatestWeightOfAll_62 (fun r_62 g_62 h => ?_)
        obtain ⟨hr_65, h⟩ := h
        refine jv_mmax C hr_65.1 hr_65.2 kw_X6_70 ks_max ki_Math kd_max ⟨rfl, rfl⟩ ⟨rfl, rfl⟩ dX6_greatestWeightOfAll_65 ?_
        refine jv_top (fun v2_68 ev2_68 => ?_)
        replace h := h v2_68 ev2_68
        refine jv_istore_n (ls' := [some (.ref (s0.heap.size + (10 : Int).toNat)), some (.ref (s0.heap.size + (3 : Int).toNat)), some (jv_i v2_68), some (jv_i x3_4), some (jv_i x4_15), some (jv_i x5_27)]) C dX6_greatestWeightOfAll_68 (Nat.lt_of_lt_of_eq (Nat.le_of_ble_eq_true rfl) hml) rfl ?_
        refine jv_iincn C dX6_greatestWeightOfAll_69 (Nat.lt_of_lt_of_eq (Nat.le_of_ble_eq_true rfl) hml) rfl (fun v5_69 ev5_69 => ?_)
        replace h := h v5_69 ev5_69
        refine jv_lset (ls' := [some (.ref (s0.heap.size + (10 : Int).toNat)), some (.ref (s0.heap.size + (3 : Int).toNat)), some (jv_i v2_68), some (jv_i x3_4), some (jv_i x4_15), some (jv_i v5_69)]) rfl ?_
        refine jv_goto (tgt := 27) C dX6_greatestWeightOfAll_72 rfl ?_
        exact jv_less (ls' := [some (.ref (s0.heap.size + (10 : Int).toNat)), some (.ref (s0.heap.size + (3 : Int).toNat)), some (jv_i v2_68), some (jv_i x3_4), some (jv_i x4_15), some (jv_i v5_69)]) ⟨rfl, ⟨rfl, ⟨rfl, ⟨rfl, ⟨rfl, ⟨rfl, trivial⟩⟩⟩⟩⟩⟩ (hK27 _ _ _ h)

def wp_X6_bestLetter (a2 : Int) (Q : Int → jv_Mem → Prop) (g : jv_Mem) : Prop :=
  (((0 : Int) ≤ jv_div a2 3 ∧ jv_div a2 3 < (3 : Int)) ∧ (wp_X7_letter (g 13 (jv_div a2 3)) (jv_rem a2 3) (fun (r_12 : Int) (g_12 : jv_Mem) => Q r_12 g_12) g))
set_option maxHeartbeats 4000000 in
set_option maxRecDepth 100000 in
theorem M_X6_bestLetter {l : Launch} {s0 : State} {b0 : Addr} {D : va_G} {ids : Nat → ClassId} {ex : Option Nat} {g : jv_Mem} {a2 : Int} {Q : Int → jv_Mem → Prop} (h : wp_X6_bestLetter a2 Q g) : jv_M l s0 b0 D ids yX6_bestLetter cX6_bestLetter 3 (some .int) 1 22 0 0 ex jv_SH g [.ref (s0.heap.size + (10 : Int).toNat), .ref (s0.heap.size + (3 : Int).toNat), jv_i a2] ex jv_SH (jv_qi Q) := by
  refine jv_M.of (by decide +kernel) rfl rfl (fun p e s m args below meth c C hml hr hlk hnm => ?_)
  replace C : jv_C p s m args c cX6_bestLetter RX6 s0 b0 D ids := C
  show jv_V p l e (jv_rm 1 22 0 0) s m args below meth c 0 0 (jv_ZM below s0 D ids ex jv_SH (jv_qi Q) args s 0 0) s0 D ids ex jv_SH g 0 [some (.ref (s0.heap.size + (10 : Int).toNat)), some (.ref (s0.heap.size + (3 : Int).toNat)), some (jv_i a2)] []
  unfold wp_X6_bestLetter at h
  refine jv_aload_n C dX6_bestLetter_0 rfl ?_
  refine jv_aload_n C dX6_bestLetter_1 rfl ?_
  refine jv_getr C kf_X6_18 sS_10 rfl dX6_bestLetter_2 ?_
  refine jv_iload_n C dX6_bestLetter_5 rfl ?_
  refine jv_const C dX6_bestLetter_6 ?_
  refine jv_idiv C (by decide +kernel) dX6_bestLetter_7 ?_
  obtain ⟨hb_8, h⟩ := h
  refine jv_iald C sS_13 rfl hb_8 dX6_bestLetter_8 ?_
  refine jv_iload_n C dX6_bestLetter_9 rfl ?_
  refine jv_const C dX6_bestLetter_10 ?_
  refine jv_irem C (by decide +kernel) dX6_bestLetter_11 ?_
  refine jv_callVi C (M_X7_letter h) kw_X6_79 sS_3 rfl rfl ⟨rfl, rfl⟩ (st := []) rfl rfl ⟨rfl, rfl⟩ dX6_bestLetter_12 (fun r_12 g_12 h => ?_)
  exact jv_iret C hr hlk ⟨_, rfl, h⟩ dX6_bestLetter_15 ⟨rfl, rfl⟩

def wp_X6_bestWord (a2 : Int) (Q : Int → jv_Mem → Prop) (g : jv_Mem) : Prop :=
  ((jv_r a2) ∧ (3 ≤ a2 → (wp_X6_columnCode 13 (a2 - 3) 3 (fun (r_22 : Int) (g_22 : jv_Mem) => (wp_X7_wordOrNone r_22 (fun (r_25 : Int) (g_25 : jv_Mem) => Q r_25 g_25) g_22)) g)) ∧ (a2 < 3 → (((0 : Int) ≤ a2 ∧ a2 < (3 : Int)) ∧ Q (g 13 a2) g)))
set_option maxHeartbeats 4000000 in
set_option maxRecDepth 100000 in
theorem M_X6_bestWord {l : Launch} {s0 : State} {b0 : Addr} {D : va_G} {ids : Nat → ClassId} {ex : Option Nat} {g : jv_Mem} {a2 : Int} {Q : Int → jv_Mem → Prop} (h : wp_X6_bestWord a2 Q g) : jv_M l s0 b0 D ids yX6_bestWord cX6_bestWord 3 (some .int) 2 47 0 0 ex jv_SH g [.ref (s0.heap.size + (10 : Int).toNat), .ref (s0.heap.size + (3 : Int).toNat), jv_i a2] ex jv_SH (jv_qi Q) := by
  refine jv_M.of (by decide +kernel) rfl rfl (fun p e s m args below meth c C hml hr hlk hnm => ?_)
  replace C : jv_C p s m args c cX6_bestWord RX6 s0 b0 D ids := C
  show jv_V p l e (jv_rm 2 47 0 0) s m args below meth c 0 0 (jv_ZM below s0 D ids ex jv_SH (jv_qi Q) args s 0 0) s0 D ids ex jv_SH g 0 [some (.ref (s0.heap.size + (10 : Int).toNat)), some (.ref (s0.heap.size + (3 : Int).toNat)), some (jv_i a2)] []
  unfold wp_X6_bestWord at h
  refine jv_iload_n C dX6_bestWord_0 rfl ?_
  refine jv_const C dX6_bestWord_1 ?_
  obtain ⟨hr_2, h1_2, h2_2⟩ := h
  refine jv_icmp_ge (tgt := 12) C hr_2 ⟨by decide, by decide⟩ dX6_bestWord_2 rfl (fun hc_2 => ?_) (fun hc_2 => ?_)
  · replace h := h1_2 hc_2
    refine jv_aload_n C dX6_bestWord_12 rfl ?_
    refine jv_aload_n C dX6_bestWord_13 rfl ?_
    refine jv_aload_n C dX6_bestWord_14 rfl ?_
    refine jv_getr C kf_X6_18 sS_10 rfl dX6_bestWord_15 ?_
    refine jv_iload_n C dX6_bestWord_18 rfl ?_
    refine jv_const C dX6_bestWord_19 ?_
    refine jv_isub C dX6_bestWord_20 ?_
    refine jv_const C dX6_bestWord_21 ?_
    refine jv_callSi C (M_X6_columnCode sS_13 h) kw_X6_60 rfl ⟨rfl, rfl⟩ (st := [.ref (s0.heap.size + (3 : Int).toNat)]) rfl rfl ⟨rfl, rfl⟩ dX6_bestWord_22 (fun r_22 g_22 h => ?_)
    refine jv_callVi C (M_X7_wordOrNone h) kw_X6_76 sS_3 rfl rfl ⟨rfl, rfl⟩ (st := []) rfl rfl ⟨rfl, rfl⟩ dX6_bestWord_25 (fun r_25 g_25 h => ?_)
    exact jv_iret C hr hlk ⟨_, rfl, h⟩ dX6_bestWord_28 ⟨rfl, rfl⟩
  · replace h := h2_2 hc_2
    refine jv_aload_n C dX6_bestWord_5 rfl ?_
    refine jv_getr C kf_X6_18 sS_10 rfl dX6_bestWord_6 ?_
    refine jv_iload_n C dX6_bestWord_9 rfl ?_
    obtain ⟨hb_10, h⟩ := h
    refine jv_iald C sS_13 rfl hb_10 dX6_bestWord_10 ?_
    exact jv_iret C hr hlk ⟨_, rfl, h⟩ dX6_bestWord_11 ⟨rfl, rfl⟩

