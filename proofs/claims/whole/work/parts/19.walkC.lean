def wB_X8_isIndex_13 (Q : Int → jv_Mem → Prop) (gj_13 : jv_Mem) : Prop :=
  Q 0 gj_13
def wp_X8_isIndex (a0 : Int) (a1 : Int) (Q : Int → jv_Mem → Prop) (g : jv_Mem) : Prop :=
  ((jv_r a0) ∧ (a0 < 0 → wB_X8_isIndex_13 Q g) ∧ (0 ≤ a0 → ((jv_r a0 ∧ jv_r a1) ∧ (a1 ≤ a0 → wB_X8_isIndex_13 Q g) ∧ (a0 < a1 → Q 1 g))))
set_option maxHeartbeats 4000000 in
set_option maxRecDepth 100000 in
theorem M_X8_isIndex {l : Launch} {s0 : State} {b0 : Addr} {D : va_G} {ids : Nat → ClassId} {ex : Option Nat} {g : jv_Mem} {a0 : Int} {a1 : Int} {Q : Int → jv_Mem → Prop} (h : wp_X8_isIndex a0 a1 Q g) : jv_M l s0 b0 D ids yX8_isIndex cX8_isIndex 2 (some .boolean) 0 0 0 0 ex jv_SH g [jv_i a0, jv_i a1] ex jv_SH (jv_qi Q) := by
  refine jv_M.of (by decide +kernel) rfl rfl (fun p e s m args below meth c C hml hr hlk hnm => ?_)
  replace C : jv_C p s m args c cX8_isIndex RX8 s0 b0 D ids := C
  show jv_V p l e (jv_rm 0 0 0 0) s m args below meth c 0 0 (jv_ZM below s0 D ids ex jv_SH (jv_qi Q) args s 0 0) s0 D ids ex jv_SH g 0 [some (jv_i a0), some (jv_i a1)] []
  unfold wp_X8_isIndex at h
  refine jv_iload_n C dX8_isIndex_0 rfl ?_
  have hJ13 : ∀ (gj_13 : jv_Mem), wB_X8_isIndex_13 Q gj_13 → jv_V p l e (jv_rm 0 0 0 0) s m args below meth c 0 0 (jv_ZM below s0 D ids ex jv_SH (jv_qi Q) args s 0 0) s0 D ids ex jv_SH gj_13 13 [none, none] [] := by
    intro gj_13 h
    unfold wB_X8_isIndex_13 at h
    refine jv_const C dX8_isIndex_13 ?_
    exact jv_zret C hr hlk rfl ⟨_, rfl, h⟩ dX8_isIndex_14 ⟨rfl, rfl⟩
  obtain ⟨hr_1, h1_1, h2_1⟩ := h
  refine jv_if_lt (tgt := 13) C hr_1 dX8_isIndex_1 rfl (fun hc_1 => ?_) (fun hc_1 => ?_)
  · replace h := h1_1 hc_1
    exact jv_less (ls' := [none, none]) trivial (hJ13 _ h)
  · replace h := h2_1 hc_1
    refine jv_iload_n C dX8_isIndex_4 rfl ?_
    refine jv_iload_n C dX8_isIndex_5 rfl ?_
    obtain ⟨hr_6, h1_6, h2_6⟩ := h
    refine jv_icmp_ge (tgt := 13) C hr_6.1 hr_6.2 dX8_isIndex_6 rfl (fun hc_6 => ?_) (fun hc_6 => ?_)
    · replace h := h1_6 hc_6
      exact jv_less (ls' := [none, none]) trivial (hJ13 _ h)
    · replace h := h2_6 hc_6
      refine jv_const C dX8_isIndex_9 ?_
      refine jv_goto (tgt := 14) C dX8_isIndex_10 rfl ?_
      exact jv_zret C hr hlk rfl ⟨_, rfl, h⟩ dX8_isIndex_14 ⟨rfl, rfl⟩

def wp_X8_turn (Q : Int → jv_Mem → Prop) (g : jv_Mem) : Prop :=
  (wp_X5_reverse (fun (g_4 : jv_Mem) => (wp_X5_letterCount (fun (r_11 : Int) (g_11 : jv_Mem) => Q r_11 g_11) g_4)) g)
set_option maxHeartbeats 4000000 in
set_option maxRecDepth 100000 in
theorem M_X8_turn {l : Launch} {s0 : State} {b0 : Addr} {D : va_G} {ids : Nat → ClassId} {ex : Option Nat} {g : jv_Mem} {Q : Int → jv_Mem → Prop} (h : wp_X8_turn Q g) : jv_M l s0 b0 D ids yX8_turn cX8_turn 1 (some .int) 1 21 0 0 ex jv_SH g [.ref (s0.heap.size + (0 : Int).toNat)] ex jv_SH (jv_qi Q) := by
  refine jv_M.of (by decide +kernel) rfl rfl (fun p e s m args below meth c C hml hr hlk hnm => ?_)
  replace C : jv_C p s m args c cX8_turn RX8 s0 b0 D ids := C
  show jv_V p l e (jv_rm 1 21 0 0) s m args below meth c 0 0 (jv_ZM below s0 D ids ex jv_SH (jv_qi Q) args s 0 0) s0 D ids ex jv_SH g 0 [some (.ref (s0.heap.size + (0 : Int).toNat))] []
  unfold wp_X8_turn at h
  refine jv_aload_n C dX8_turn_0 rfl ?_
  refine jv_getr C kf_X8_10 sS_0 rfl dX8_turn_1 ?_
  refine jv_callVv C (M_X5_reverse h) kw_X8_87 sS_1 rfl rfl ⟨rfl, rfl⟩ (st := []) rfl rfl ⟨rfl, rfl⟩ dX8_turn_4 (fun g_4 h => ?_)
  refine jv_aload_n C dX8_turn_7 rfl ?_
  refine jv_getr C kf_X8_10 sS_0 rfl dX8_turn_8 ?_
  refine jv_callVi C (M_X5_letterCount h) kw_X8_90 sS_1 rfl rfl ⟨rfl, rfl⟩ (st := []) rfl rfl ⟨rfl, rfl⟩ dX8_turn_11 (fun r_11 g_11 h => ?_)
  exact jv_iret C hr hlk ⟨_, rfl, h⟩ dX8_turn_14 ⟨rfl, rfl⟩

def wp_X8_clearSpelled (Q : Int → jv_Mem → Prop) (g : jv_Mem) : Prop :=
  (wp_X5_letterCount (fun (r_4 : Int) (g_4 : jv_Mem) => (wp_X5_empty (fun (g_12 : jv_Mem) => Q r_4 g_12) g_4)) g)
set_option maxHeartbeats 4000000 in
set_option maxRecDepth 100000 in
theorem M_X8_clearSpelled {l : Launch} {s0 : State} {b0 : Addr} {D : va_G} {ids : Nat → ClassId} {ex : Option Nat} {g : jv_Mem} {Q : Int → jv_Mem → Prop} (h : wp_X8_clearSpelled Q g) : jv_M l s0 b0 D ids yX8_clearSpelled cX8_clearSpelled 2 (some .int) 1 20 0 0 ex jv_SH g [.ref (s0.heap.size + (0 : Int).toNat)] ex jv_SH (jv_qi Q) := by
  refine jv_M.of (by decide +kernel) rfl rfl (fun p e s m args below meth c C hml hr hlk hnm => ?_)
  replace C : jv_C p s m args c cX8_clearSpelled RX8 s0 b0 D ids := C
  show jv_V p l e (jv_rm 1 20 0 0) s m args below meth c 0 0 (jv_ZM below s0 D ids ex jv_SH (jv_qi Q) args s 0 0) s0 D ids ex jv_SH g 0 [some (.ref (s0.heap.size + (0 : Int).toNat)), none] []
  unfold wp_X8_clearSpelled at h
  refine jv_aload_n C dX8_clearSpelled_0 rfl ?_
  refine jv_getr C kf_X8_10 sS_0 rfl dX8_clearSpelled_1 ?_
  refine jv_callVi C (M_X5_letterCount h) kw_X8_90 sS_1 rfl rfl ⟨rfl, rfl⟩ (st := []) rfl rfl ⟨rfl, rfl⟩ dX8_clearSpelled_4 (fun r_4 g_4 h => ?_)
  refine jv_istore_n (ls' := [some (.ref (s0.heap.size + (0 : Int).toNat)), some (jv_i r_4)]) C dX8_clearSpelled_7 (Nat.lt_of_lt_of_eq (Nat.le_of_ble_eq_true rfl) hml) rfl ?_
  refine jv_aload_n C dX8_clearSpelled_8 rfl ?_
  refine jv_getr C kf_X8_10 sS_0 rfl dX8_clearSpelled_9 ?_
  refine jv_callVv C (M_X5_empty h) kw_X8_93 sS_1 rfl rfl ⟨rfl, rfl⟩ (st := []) rfl rfl ⟨rfl, rfl⟩ dX8_clearSpelled_12 (fun g_12 h => ?_)
  refine jv_iload_n C dX8_clearSpelled_15 rfl ?_
  exact jv_iret C hr hlk ⟨_, rfl, h⟩ dX8_clearSpelled_16 ⟨rfl, rfl⟩

def wp_X8_wordAt (a1 : Int) (Q : Int → jv_Mem → Prop) (g : jv_Mem) : Prop :=
  (wp_X7_count (fun (r_5 : Int) (g_5 : jv_Mem) => (wp_X8_isIndex a1 r_5 (fun (r_8 : Int) (g_8 : jv_Mem) => ((jv_r r_8) ∧ (r_8 = 0 → Q ((-1)) g_8) ∧ (¬ r_8 = 0 → (wp_X7_inOrder a1 (fun (r_19 : Int) (g_19 : jv_Mem) => Q r_19 g_19) g_8)))) g_5)) g)
set_option maxHeartbeats 4000000 in
set_option maxRecDepth 100000 in
theorem M_X8_wordAt {l : Launch} {s0 : State} {b0 : Addr} {D : va_G} {ids : Nat → ClassId} {ex : Option Nat} {g : jv_Mem} {a1 : Int} {Q : Int → jv_Mem → Prop} (h : wp_X8_wordAt a1 Q g) : jv_M l s0 b0 D ids yX8_wordAt cX8_wordAt 2 (some .int) 1 21 0 0 ex jv_SH g [.ref (s0.heap.size + (0 : Int).toNat), jv_i a1] ex jv_SH (jv_qi Q) := by
  refine jv_M.of (by decide +kernel) rfl rfl (fun p e s m args below meth c C hml hr hlk hnm => ?_)
  replace C : jv_C p s m args c cX8_wordAt RX8 s0 b0 D ids := C
  show jv_V p l e (jv_rm 1 21 0 0) s m args below meth c 0 0 (jv_ZM below s0 D ids ex jv_SH (jv_qi Q) args s 0 0) s0 D ids ex jv_SH g 0 [some (.ref (s0.heap.size + (0 : Int).toNat)), some (jv_i a1)] []
  unfold wp_X8_wordAt at h
  refine jv_iload_n C dX8_wordAt_0 rfl ?_
  refine jv_aload_n C dX8_wordAt_1 rfl ?_
  refine jv_getr C kf_X8_19 sS_0 rfl dX8_wordAt_2 ?_
  refine jv_callVi C (M_X7_count h) kw_X8_121 sS_3 rfl rfl ⟨rfl, rfl⟩ (st := [jv_i a1]) rfl rfl ⟨rfl, rfl⟩ dX8_wordAt_5 (fun r_5 g_5 h => ?_)
  refine jv_callSi C (M_X8_isIndex h) kw_X8_139 rfl ⟨rfl, rfl⟩ (st := []) rfl rfl ⟨rfl, rfl⟩ dX8_wordAt_8 (fun r_8 g_8 h => ?_)
  obtain ⟨hr_11, h1_11, h2_11⟩ := h
  refine jv_if_eq (tgt := 25) C hr_11 dX8_wordAt_11 rfl (fun hc_11 => ?_) (fun hc_11 => ?_)
  · replace h := h1_11 hc_11
    refine jv_const C dX8_wordAt_25 ?_
    exact jv_iret C hr hlk ⟨_, rfl, h⟩ dX8_wordAt_26 ⟨rfl, rfl⟩
  · replace h := h2_11 hc_11
    refine jv_aload_n C dX8_wordAt_14 rfl ?_
    refine jv_getr C kf_X8_19 sS_0 rfl dX8_wordAt_15 ?_
    refine jv_iload_n C dX8_wordAt_18 rfl ?_
    refine jv_callVi C (M_X7_inOrder h) kw_X8_143 sS_3 rfl rfl ⟨rfl, rfl⟩ (st := []) rfl rfl ⟨rfl, rfl⟩ dX8_wordAt_19 (fun r_19 g_19 h => ?_)
    refine jv_goto (tgt := 26) C dX8_wordAt_22 rfl ?_
    exact jv_iret C hr hlk ⟨_, rfl, h⟩ dX8_wordAt_26 ⟨rfl, rfl⟩

def wp_X8_beginning (Q : Int → jv_Mem → Prop) (g : jv_Mem) : Prop :=
  (wp_X5_code (fun (r_8 : Int) (g_8 : jv_Mem) => (wp_X7_beginningWith r_8 (fun (r_11 : Int) (g_11 : jv_Mem) => Q r_11 g_11) g_8)) g)
set_option maxHeartbeats 4000000 in
set_option maxRecDepth 100000 in
theorem M_X8_beginning {l : Launch} {s0 : State} {b0 : Addr} {D : va_G} {ids : Nat → ClassId} {ex : Option Nat} {g : jv_Mem} {Q : Int → jv_Mem → Prop} (h : wp_X8_beginning Q g) : jv_M l s0 b0 D ids yX8_beginning cX8_beginning 1 (some .int) 1 22 0 0 ex jv_SH g [.ref (s0.heap.size + (0 : Int).toNat)] ex jv_SH (jv_qi Q) := by
  refine jv_M.of (by decide +kernel) rfl rfl (fun p e s m args below meth c C hml hr hlk hnm => ?_)
  replace C : jv_C p s m args c cX8_beginning RX8 s0 b0 D ids := C
  show jv_V p l e (jv_rm 1 22 0 0) s m args below meth c 0 0 (jv_ZM below s0 D ids ex jv_SH (jv_qi Q) args s 0 0) s0 D ids ex jv_SH g 0 [some (.ref (s0.heap.size + (0 : Int).toNat))] []
  unfold wp_X8_beginning at h
  refine jv_aload_n C dX8_beginning_0 rfl ?_
  refine jv_getr C kf_X8_19 sS_0 rfl dX8_beginning_1 ?_
  refine jv_aload_n C dX8_beginning_4 rfl ?_
  refine jv_getr C kf_X8_10 sS_0 rfl dX8_beginning_5 ?_
  refine jv_callVi C (M_X5_code h) kw_X8_115 sS_1 rfl rfl ⟨rfl, rfl⟩ (st := [.ref (s0.heap.size + (3 : Int).toNat)]) rfl rfl ⟨rfl, rfl⟩ dX8_beginning_8 (fun r_8 g_8 h => ?_)
  refine jv_callVi C (M_X7_beginningWith h) kw_X8_118 sS_3 rfl rfl ⟨rfl, rfl⟩ (st := []) rfl rfl ⟨rfl, rfl⟩ dX8_beginning_11 (fun r_11 g_11 h => ?_)
  exact jv_iret C hr hlk ⟨_, rfl, h⟩ dX8_beginning_14 ⟨rfl, rfl⟩

def wp_X8_fillWeight (Q : Int → jv_Mem → Prop) (g : jv_Mem) : Prop :=
  (wp_X6_search (fun (g_8 : jv_Mem) => (wp_X6_bestWeight (fun (r_15 : Int) (g_15 : jv_Mem) => Q r_15 g_15) g_8)) g)
set_option maxHeartbeats 4000000 in
set_option maxRecDepth 100000 in
theorem M_X8_fillWeight {l : Launch} {s0 : State} {b0 : Addr} {D : va_G} {ids : Nat → ClassId} {ex : Option Nat} {g : jv_Mem} {Q : Int → jv_Mem → Prop} (h : wp_X8_fillWeight Q g) : jv_M l s0 b0 D ids yX8_fillWeight cX8_fillWeight 1 (some .int) 4 95 0 0 ex jv_SH g [.ref (s0.heap.size + (0 : Int).toNat)] ex jv_SH (jv_qi Q) := by
  refine jv_M.of (by decide +kernel) rfl rfl (fun p e s m args below meth c C hml hr hlk hnm => ?_)
  replace C : jv_C p s m args c cX8_fillWeight RX8 s0 b0 D ids := C
  show jv_V p l e (jv_rm 4 95 0 0) s m args below meth c 0 0 (jv_ZM below s0 D ids ex jv_SH (jv_qi Q) args s 0 0) s0 D ids ex jv_SH g 0 [some (.ref (s0.heap.size + (0 : Int).toNat))] []
  unfold wp_X8_fillWeight at h
  refine jv_aload_n C dX8_fillWeight_0 rfl ?_
  refine jv_getr C kf_X8_26 sS_0 rfl dX8_fillWeight_1 ?_
  refine jv_aload_n C dX8_fillWeight_4 rfl ?_
  refine jv_getr C kf_X8_19 sS_0 rfl dX8_fillWeight_5 ?_
  refine jv_callVv C (M_X6_search h) kw_X8_152 sS_10 rfl rfl ⟨rfl, rfl⟩ (st := []) rfl rfl ⟨rfl, rfl⟩ dX8_fillWeight_8 (fun g_8 h => ?_)
  refine jv_aload_n C dX8_fillWeight_11 rfl ?_
  refine jv_getr C kf_X8_26 sS_0 rfl dX8_fillWeight_12 ?_
  refine jv_callVi C (M_X6_bestWeight h) kw_X8_156 sS_10 rfl rfl ⟨rfl, rfl⟩ (st := []) rfl rfl ⟨rfl, rfl⟩ dX8_fillWeight_15 (fun r_15 g_15 h => ?_)
  exact jv_iret C hr hlk ⟨_, rfl, h⟩ dX8_fillWeight_18 ⟨rfl, rfl⟩

def wp_X8_fillWeightByAll (Q : Int → jv_Mem → Prop) (g : jv_Mem) : Prop :=
  (wp_X6_greatestWeightOfAll (fun (r_8 : Int) (g_8 : jv_Mem) => Q r_8 g_8) g)
set_option maxHeartbeats 4000000 in
set_option maxRecDepth 100000 in
theorem M_X8_fillWeightByAll {l : Launch} {s0 : State} {b0 : Addr} {D : va_G} {ids : Nat → ClassId} {ex : Option Nat} {g : jv_Mem} {Q : Int → jv_Mem → Prop} (h : wp_X8_fillWeightByAll Q g) : jv_M l s0 b0 D ids yX8_fillWeightByAll cX8_fillWeightByAll 1 (some .int) 5 118 0 0 ex jv_SH g [.ref (s0.heap.size + (0 : Int).toNat)] ex jv_SH (jv_qi Q) := by
  refine jv_M.of (by decide +kernel) rfl rfl (fun p e s m args below meth c C hml hr hlk hnm => ?_)
  replace C : jv_C p s m args c cX8_fillWeightByAll RX8 s0 b0 D ids := C
  show jv_V p l e (jv_rm 5 118 0 0) s m args below meth c 0 0 (jv_ZM below s0 D ids ex jv_SH (jv_qi Q) args s 0 0) s0 D ids ex jv_SH g 0 [some (.ref (s0.heap.size + (0 : Int).toNat))] []
  unfold wp_X8_fillWeightByAll at h
  refine jv_aload_n C dX8_fillWeightByAll_0 rfl ?_
  refine jv_getr C kf_X8_26 sS_0 rfl dX8_fillWeightByAll_1 ?_
  refine jv_aload_n C dX8_fillWeightByAll_4 rfl ?_
  refine jv_getr C kf_X8_19 sS_0 rfl dX8_fillWeightByAll_5 ?_
  refine jv_callVi C (M_X6_greatestWeightOfAll h) kw_X8_159 sS_10 rfl rfl ⟨rfl, rfl⟩ (st := []) rfl rfl ⟨rfl, rfl⟩ dX8_fillWeightByAll_8 (fun r_8 g_8 h => ?_)
  exact jv_iret C hr hlk ⟨_, rfl, h⟩ dX8_fillWeightByAll_11 ⟨rfl, rfl⟩

def wp_X8_fills (Q : Int → jv_Mem → Prop) (g : jv_Mem) : Prop :=
  (wp_X6_search (fun (g_8 : jv_Mem) => (wp_X6_foundCount (fun (r_15 : Int) (g_15 : jv_Mem) => Q r_15 g_15) g_8)) g)
set_option maxHeartbeats 4000000 in
set_option maxRecDepth 100000 in
theorem M_X8_fills {l : Launch} {s0 : State} {b0 : Addr} {D : va_G} {ids : Nat → ClassId} {ex : Option Nat} {g : jv_Mem} {Q : Int → jv_Mem → Prop} (h : wp_X8_fills Q g) : jv_M l s0 b0 D ids yX8_fills cX8_fills 1 (some .int) 4 95 0 0 ex jv_SH g [.ref (s0.heap.size + (0 : Int).toNat)] ex jv_SH (jv_qi Q) := by
  refine jv_M.of (by decide +kernel) rfl rfl (fun p e s m args below meth c C hml hr hlk hnm => ?_)
  replace C : jv_C p s m args c cX8_fills RX8 s0 b0 D ids := C
  show jv_V p l e (jv_rm 4 95 0 0) s m args below meth c 0 0 (jv_ZM below s0 D ids ex jv_SH (jv_qi Q) args s 0 0) s0 D ids ex jv_SH g 0 [some (.ref (s0.heap.size + (0 : Int).toNat))] []
  unfold wp_X8_fills at h
  refine jv_aload_n C dX8_fills_0 rfl ?_
  refine jv_getr C kf_X8_26 sS_0 rfl dX8_fills_1 ?_
  refine jv_aload_n C dX8_fills_4 rfl ?_
  refine jv_getr C kf_X8_19 sS_0 rfl dX8_fills_5 ?_
  refine jv_callVv C (M_X6_search h) kw_X8_152 sS_10 rfl rfl ⟨rfl, rfl⟩ (st := []) rfl rfl ⟨rfl, rfl⟩ dX8_fills_8 (fun g_8 h => ?_)
  refine jv_aload_n C dX8_fills_11 rfl ?_
  refine jv_getr C kf_X8_26 sS_0 rfl dX8_fills_12 ?_
  refine jv_callVi C (M_X6_foundCount h) kw_X8_163 sS_10 rfl rfl ⟨rfl, rfl⟩ (st := []) rfl rfl ⟨rfl, rfl⟩ dX8_fills_15 (fun r_15 g_15 h => ?_)
  exact jv_iret C hr hlk ⟨_, rfl, h⟩ dX8_fills_18 ⟨rfl, rfl⟩

def wp_X8_now (Q : Int → jv_Mem → Prop) (g : jv_Mem) : Prop :=
  Q (g 0 11) g
set_option maxHeartbeats 4000000 in
set_option maxRecDepth 100000 in
theorem M_X8_now {l : Launch} {s0 : State} {b0 : Addr} {D : va_G} {ids : Nat → ClassId} {ex : Option Nat} {g : jv_Mem} {Q : Int → jv_Mem → Prop} (h : wp_X8_now Q g) : jv_M l s0 b0 D ids yX8_now cX8_now 1 (some .int) 0 0 0 0 ex jv_SH g [.ref (s0.heap.size + (0 : Int).toNat)] ex jv_SH (jv_qi Q) := by
  refine jv_M.of (by decide +kernel) rfl rfl (fun p e s m args below meth c C hml hr hlk hnm => ?_)
  replace C : jv_C p s m args c cX8_now RX8 s0 b0 D ids := C
  show jv_V p l e (jv_rm 0 0 0 0) s m args below meth c 0 0 (jv_ZM below s0 D ids ex jv_SH (jv_qi Q) args s 0 0) s0 D ids ex jv_SH g 0 [some (.ref (s0.heap.size + (0 : Int).toNat))] []
  unfold wp_X8_now at h
  refine jv_aload_n C dX8_now_0 rfl ?_
  refine jv_geti C kf_X8_190 sS_0 rfl dX8_now_1 ?_
  exact jv_iret C hr hlk ⟨_, rfl, h⟩ dX8_now_4 ⟨rfl, rfl⟩

def wp_X8_today (Q : Int → jv_Mem → Prop) (g : jv_Mem) : Prop :=
  Q (jv_div (g 0 11) 24) g
set_option maxHeartbeats 4000000 in
set_option maxRecDepth 100000 in
theorem M_X8_today {l : Launch} {s0 : State} {b0 : Addr} {D : va_G} {ids : Nat → ClassId} {ex : Option Nat} {g : jv_Mem} {Q : Int → jv_Mem → Prop} (h : wp_X8_today Q g) : jv_M l s0 b0 D ids yX8_today cX8_today 1 (some .int) 0 0 0 0 ex jv_SH g [.ref (s0.heap.size + (0 : Int).toNat)] ex jv_SH (jv_qi Q) := by
  refine jv_M.of (by decide +kernel) rfl rfl (fun p e s m args below meth c C hml hr hlk hnm => ?_)
  replace C : jv_C p s m args c cX8_today RX8 s0 b0 D ids := C
  show jv_V p l e (jv_rm 0 0 0 0) s m args below meth c 0 0 (jv_ZM below s0 D ids ex jv_SH (jv_qi Q) args s 0 0) s0 D ids ex jv_SH g 0 [some (.ref (s0.heap.size + (0 : Int).toNat))] []
  unfold wp_X8_today at h
  refine jv_aload_n C dX8_today_0 rfl ?_
  refine jv_geti C kf_X8_190 sS_0 rfl dX8_today_1 ?_
  refine jv_bipush C dX8_today_4 (by decide +kernel) ?_
  refine jv_idiv C (by decide +kernel) dX8_today_6 ?_
  exact jv_iret C hr hlk ⟨_, rfl, h⟩ dX8_today_7 ⟨rfl, rfl⟩

def wB_X8_mayPublishToday_42 (Q : Int → jv_Mem → Prop) (gj_42 : jv_Mem) : Prop :=
  Q 1 gj_42
def wp_X8_mayPublishToday (Q : Int → jv_Mem → Prop) (g : jv_Mem) : Prop :=
  ((jv_r (g 0 9)) ∧ ((g 0 9) < 20 → ((jv_r (g 0 9)) ∧ ((g 0 9) = 0 → wB_X8_mayPublishToday_42 Q g) ∧ (¬ (g 0 9) = 0 → (((0 : Int) ≤ (g 0 9) - 1 ∧ (g 0 9) - 1 < (20 : Int)) ∧ (wp_X3_hourOfAppearing (30 + 3 * ((g 0 9) - 1)) (fun (r_29 : Int) (g_29 : jv_Mem) => (wp_X8_today (fun (r_36 : Int) (g_36 : jv_Mem) => ((jv_r (jv_div r_29 24) ∧ jv_r r_36) ∧ (r_36 ≤ (jv_div r_29 24) → Q 0 g_36) ∧ ((jv_div r_29 24) < r_36 → wB_X8_mayPublishToday_42 Q g_36))) g_29)) g))))) ∧ (20 ≤ (g 0 9) → Q 0 g))
set_option maxHeartbeats 4000000 in
set_option maxRecDepth 100000 in
theorem M_X8_mayPublishToday {l : Launch} {s0 : State} {b0 : Addr} {D : va_G} {ids : Nat → ClassId} {ex : Option Nat} {g : jv_Mem} {Q : Int → jv_Mem → Prop} (h : wp_X8_mayPublishToday Q g) : jv_M l s0 b0 D ids yX8_mayPublishToday cX8_mayPublishToday 1 (some .boolean) 1 20 0 0 ex jv_SH g [.ref (s0.heap.size + (0 : Int).toNat)] ex jv_SH (jv_qi Q) := by
  refine jv_M.of (by decide +kernel) rfl rfl (fun p e s m args below meth c C hml hr hlk hnm => ?_)
  replace C : jv_C p s m args c cX8_mayPublishToday RX8 s0 b0 D ids := C
  show jv_V p l e (jv_rm 1 20 0 0) s m args below meth c 0 0 (jv_ZM below s0 D ids ex jv_SH (jv_qi Q) args s 0 0) s0 D ids ex jv_SH g 0 [some (.ref (s0.heap.size + (0 : Int).toNat))] []
  unfold wp_X8_mayPublishToday at h
  refine jv_aload_n C dX8_mayPublishToday_0 rfl ?_
  refine jv_geti C kf_X8_204 sS_0 rfl dX8_mayPublishToday_1 ?_
  refine jv_bipush C dX8_mayPublishToday_4 (by decide +kernel) ?_
  obtain ⟨hr_6, h1_6, h2_6⟩ := h
  refine jv_icmp_lt (tgt := 11) C hr_6 ⟨by decide, by decide⟩ dX8_mayPublishToday_6 rfl (fun hc_6 => ?_) (fun hc_6 => ?_)
  · replace h := h1_6 hc_6
    refine jv_aload_n C dX8_mayPublishToday_11 rfl ?_
    refine jv_geti C kf_X8_204 sS_0 rfl dX8_mayPublishToday_12 ?_
    have hJ42 : ∀ (gj_42 : jv_Mem), wB_X8_mayPublishToday_42 Q gj_42 → jv_V p l e (jv_rm 1 20 0 0) s m args below meth c 0 0 (jv_ZM below s0 D ids ex jv_SH (jv_qi Q) args s 0 0) s0 D ids ex jv_SH gj_42 42 [none] [] := by
      intro gj_42 h
      unfold wB_X8_mayPublishToday_42 at h
      refine jv_const C dX8_mayPublishToday_42 ?_
      refine jv_goto (tgt := 47) C dX8_mayPublishToday_43 rfl ?_
      exact jv_zret C hr hlk rfl ⟨_, rfl, h⟩ dX8_mayPublishToday_47 ⟨rfl, rfl⟩
    obtain ⟨hr_15, h1_15, h2_15⟩ := h
    refine jv_if_eq (tgt := 42) C hr_15 dX8_mayPublishToday_15 rfl (fun hc_15 => ?_) (fun hc_15 => ?_)
    · replace h := h1_15 hc_15
      exact jv_less (ls' := [none]) trivial (hJ42 _ h)
    · replace h := h2_15 hc_15
      refine jv_aload_n C dX8_mayPublishToday_18 rfl ?_
      refine jv_getr C kf_X8_39 sS_0 rfl dX8_mayPublishToday_19 ?_
      refine jv_aload_n C dX8_mayPublishToday_22 rfl ?_
      refine jv_geti C kf_X8_204 sS_0 rfl dX8_mayPublishToday_23 ?_
      refine jv_const C dX8_mayPublishToday_26 ?_
      refine jv_isub C dX8_mayPublishToday_27 ?_
      obtain ⟨hb_28, h⟩ := h
      refine jv_aaldP C hb_28 dX8_mayPublishToday_28 ?_
      refine jv_callVi C (M_X3_hourOfAppearing (jv_pz hb_28.1 hb_28.2) h) kw_X8_286 (jv_pz hb_28.1 hb_28.2).1 rfl rfl ⟨rfl, rfl⟩ (st := []) rfl rfl ⟨rfl, rfl⟩ dX8_mayPublishToday_29 (fun r_29 g_29 h => ?_)
      refine jv_bipush C dX8_mayPublishToday_32 (by decide +kernel) ?_
      refine jv_idiv C (by decide +kernel) dX8_mayPublishToday_34 ?_
      refine jv_aload_n C dX8_mayPublishToday_35 rfl ?_
      refine jv_callVi C (M_X8_today h) kw_X8_219 sS_0 rfl rfl ⟨rfl, rfl⟩ (st := [jv_i (jv_div r_29 24)]) rfl rfl ⟨rfl, rfl⟩ dX8_mayPublishToday_36 (fun r_36 g_36 h => ?_)
      obtain ⟨hr_39, h1_39, h2_39⟩ := h
      refine jv_icmp_ge (tgt := 46) C hr_39.1 hr_39.2 dX8_mayPublishToday_39 rfl (fun hc_39 => ?_) (fun hc_39 => ?_)
      · replace h := h1_39 hc_39
        refine jv_const C dX8_mayPublishToday_46 ?_
        exact jv_zret C hr hlk rfl ⟨_, rfl, h⟩ dX8_mayPublishToday_47 ⟨rfl, rfl⟩
      · replace h := h2_39 hc_39
        exact jv_less (ls' := [none]) trivial (hJ42 _ h)
  · replace h := h2_6 hc_6
    refine jv_const C dX8_mayPublishToday_9 ?_
    exact jv_zret C hr hlk rfl ⟨_, rfl, h⟩ dX8_mayPublishToday_10 ⟨rfl, rfl⟩

def wp_X8_findClues (Q : Int → jv_Mem → Prop) (g : jv_Mem) : Prop :=
  (wp_X6_search (fun (g_8 : jv_Mem) => (wp_X6_bestWeight (fun (r_15 : Int) (g_15 : jv_Mem) => ((jv_r r_15) ∧ (¬ r_15 = ((-1)) → jv_lp1 (fun (K26 : Int → jv_Mem → Prop) (x1_26 : Int) (gl_26 : jv_Mem) => ((jv_r x1_26) ∧ (6 ≤ x1_26 → Q 1 gl_26) ∧ (x1_26 < 6 → (wp_X6_bestWord x1_26 (fun (r_46 : Int) (g_46 : jv_Mem) => (wp_X8_today (fun (r_50 : Int) (g_50 : jv_Mem) => (wp_X0_choose x1_26 r_46 r_50 (fun (r_53 : Int) (g_53 : jv_Mem) => ((jv_r r_53) ∧ (¬ r_53 = 0 → (∀ v1_61 : Int, v1_61 = x1_26 + 1 → K26 v1_61 g_53)) ∧ (r_53 = 0 → Q 0 g_53))) g_50)) g_46)) gl_26)))) 0 g_15) ∧ (r_15 = ((-1)) → Q 0 g_15))) g_8)) g)
set_option maxHeartbeats 4000000 in
set_option maxRecDepth 100000 in
theorem M_X8_findClues {l : Launch} {s0 : State} {b0 : Addr} {D : va_G} {ids : Nat → ClassId} {ex : Option Nat} {g : jv_Mem} {Q : Int → jv_Mem → Prop} (h : wp_X8_findClues Q g) : jv_M l s0 b0 D ids yX8_findClues cX8_findClues 2 (some .boolean) 4 95 0 0 ex jv_SH g [.ref (s0.heap.size + (0 : Int).toNat)] ex jv_SH (jv_qi Q) := by
  refine jv_M.of (by decide +kernel) rfl rfl (fun p e s m args below meth c C hml hr hlk hnm => ?_)
  replace C : jv_C p s m args c cX8_findClues RX8 s0 b0 D ids := C
  show jv_V p l e (jv_rm 4 95 0 0) s m args below meth c 0 0 (jv_ZM below s0 D ids ex jv_SH (jv_qi Q) args s 0 0) s0 D ids ex jv_SH g 0 [some (.ref (s0.heap.size + (0 : Int).toNat)), none] []
  unfold wp_X8_findClues at h
  refine jv_aload_n C dX8_findClues_0 rfl ?_
  refine jv_getr C kf_X8_26 sS_0 rfl dX8_findClues_1 ?_
  refine jv_aload_n C dX8_findClues_4 rfl ?_
  refine jv_getr C kf_X8_19 sS_0 rfl dX8_findClues_5 ?_
  refine jv_callVv C (M_X6_search h) kw_X8_152 sS_10 rfl rfl ⟨rfl, rfl⟩ (st := []) rfl rfl ⟨rfl, rfl⟩ dX8_findClues_8 (fun g_8 h => ?_)
  refine jv_aload_n C dX8_findClues_11 rfl ?_
  refine jv_getr C kf_X8_26 sS_0 rfl dX8_findClues_12 ?_
  refine jv_callVi C (M_X6_bestWeight h) kw_X8_156 sS_10 rfl rfl ⟨rfl, rfl⟩ (st := []) rfl rfl ⟨rfl, rfl⟩ dX8_findClues_15 (fun r_15 g_15 h => ?_)
  refine jv_const C dX8_findClues_18 ?_
  obtain ⟨hr_19, h1_19, h2_19⟩ := h
  refine jv_icmp_ne (tgt := 24) C hr_19 ⟨by decide, by decide⟩ dX8_findClues_19 rfl (fun hc_19 => ?_) (fun hc_19 => ?_)
  · replace h := h1_19 hc_19
    refine jv_const C dX8_findClues_24 ?_
    refine jv_istore_n (ls' := [some (.ref (s0.heap.size + (0 : Int).toNat)), some (jv_i 0)]) C dX8_findClues_25 (Nat.lt_of_lt_of_eq (Nat.le_of_ble_eq_true rfl) hml) rfl ?_
    refine jv_less (ls' := [some (.ref (s0.heap.size + (0 : Int).toNat)), some (jv_i 0)]) ⟨rfl, ⟨rfl, trivial⟩⟩ ?_
    refine jv_lp1.use h (fun (x1_26 : Int) (gl_26 : jv_Mem) => jv_V p l e (jv_rm 4 95 0 0) s m args below meth c 0 0 (jv_ZM below s0 D ids ex jv_SH (jv_qi Q) args s 0 0) s0 D ids ex jv_SH gl_26 26 [some (.ref (s0.heap.size + (0 : Int).toNat)), some (jv_i x1_26)] []) ?_
    intro K26 hK26 x1_26 gl_26 h
    refine jv_iload_n C dX8_findClues_26 rfl ?_
    refine jv_bipush C dX8_findClues_27 (by decide +kernel) ?_
    obtain ⟨hr_29, h1_29, h2_29⟩ := h
    refine jv_icmp_ge (tgt := 67) C hr_29 ⟨by decide, by decide⟩ dX8_findClues_29 rfl (fun hc_29 => ?_) (fun hc_29 => ?_)
    · replace h := h1_29 hc_29
      refine jv_const C dX8_findClues_67 ?_
      exact jv_zret C hr hlk rfl ⟨_, rfl, h⟩ dX8_findClues_68 ⟨rfl, rfl⟩
    · replace h := h2_29 hc_29
      refine jv_aload_n C dX8_findClues_32 rfl ?_
      refine jv_getr C kf_X8_33 sS_0 rfl dX8_findClues_33 ?_
      refine jv_iload_n C dX8_findClues_36 rfl ?_
      refine jv_aload_n C dX8_findClues_37 rfl ?_
      refine jv_getr C kf_X8_26 sS_0 rfl dX8_findClues_38 ?_
      refine jv_aload_n C dX8_findClues_41 rfl ?_
      refine jv_getr C kf_X8_19 sS_0 rfl dX8_findClues_42 ?_
      refine jv_iload_n C dX8_findClues_45 rfl ?_
      refine jv_callVi C (M_X6_bestWord h) kw_X8_338 sS_10 rfl rfl ⟨rfl, rfl⟩ (st := [jv_i x1_26, .ref (s0.heap.size + (14 : Int).toNat)]) rfl rfl ⟨rfl, rfl⟩ dX8_findClues_46 (fun r_46 g_46 h => ?_)
      refine jv_aload_n C dX8_findClues_49 rfl ?_
      refine jv_callVi C (M_X8_today h) kw_X8_219 sS_0 rfl rfl ⟨rfl, rfl⟩ (st := [jv_i r_46, jv_i x1_26, .ref (s0.heap.size + (14 : Int).toNat)]) rfl rfl ⟨rfl, rfl⟩ dX8_findClues_50 (fun r_50 g_50 h => ?_)
      refine jv_callVi C (M_X0_choose h) kw_X8_341 sS_14 rfl rfl ⟨rfl, rfl⟩ (st := []) rfl rfl ⟨rfl, rfl⟩ dX8_findClues_53 (fun r_53 g_53 h => ?_)
      obtain ⟨hr_56, h1_56, h2_56⟩ := h
      refine jv_if_ne (tgt := 61) C hr_56 dX8_findClues_56 rfl (fun hc_56 => ?_) (fun hc_56 => ?_)
      · replace h := h1_56 hc_56
        refine jv_iincn C dX8_findClues_61 (Nat.lt_of_lt_of_eq (Nat.le_of_ble_eq_true rfl) hml) rfl (fun v1_61 ev1_61 => ?_)
        replace h := h v1_61 ev1_61
        refine jv_lset (ls' := [some (.ref (s0.heap.size + (0 : Int).toNat)), some (jv_i v1_61)]) rfl ?_
        refine jv_goto (tgt := 26) C dX8_findClues_64 rfl ?_
        exact jv_less (ls' := [some (.ref (s0.heap.size + (0 : Int).toNat)), some (jv_i v1_61)]) ⟨rfl, ⟨rfl, trivial⟩⟩ (hK26 _ _ h)
      · replace h := h2_56 hc_56
        refine jv_const C dX8_findClues_59 ?_
        exact jv_zret C hr hlk rfl ⟨_, rfl, h⟩ dX8_findClues_60 ⟨rfl, rfl⟩
  · replace h := h2_19 hc_19
    refine jv_const C dX8_findClues_22 ?_
    exact jv_zret C hr hlk rfl ⟨_, rfl, h⟩ dX8_findClues_23 ⟨rfl, rfl⟩

def wp_X8_countIfSolved (a1 : Int) (a2 : Int) (Q : jv_Mem → Prop) (g : jv_Mem) : Prop :=
  (((0 : Int) ≤ a2 ∧ a2 < (20 : Int)) ∧ (((0 : Int) ≤ a1 ∧ a1 < (6 : Int)) ∧ (wp_X3_openCells (30 + 3 * a2) (fun (r_18 : Int) (g_18 : jv_Mem) => (wp_X3_hourOfAppearing (30 + 3 * a2) (fun (r_22 : Int) (g_22 : jv_Mem) => (wp_X2_countIfSolved (90 + 6 * a1 + 1) a2 r_18 r_22 (fun (g_25 : jv_Mem) => Q g_25) g_22)) g_18)) g)))
set_option maxHeartbeats 4000000 in
set_option maxRecDepth 100000 in
theorem M_X8_countIfSolved {l : Launch} {s0 : State} {b0 : Addr} {D : va_G} {ids : Nat → ClassId} {ex : Option Nat} {g : jv_Mem} {a1 : Int} {a2 : Int} {Q : jv_Mem → Prop} (h : wp_X8_countIfSolved a1 a2 Q g) : jv_M l s0 b0 D ids yX8_countIfSolved cX8_countIfSolved 4 none 3 74 0 0 ex jv_SH g [.ref (s0.heap.size + (0 : Int).toNat), jv_i a1, jv_i a2] ex jv_SH (jv_qv Q) := by
  refine jv_M.of (by decide +kernel) rfl rfl (fun p e s m args below meth c C hml hr hlk hnm => ?_)
  replace C : jv_C p s m args c cX8_countIfSolved RX8 s0 b0 D ids := C
  show jv_V p l e (jv_rm 3 74 0 0) s m args below meth c 0 0 (jv_ZM below s0 D ids ex jv_SH (jv_qv Q) args s 0 0) s0 D ids ex jv_SH g 0 [some (.ref (s0.heap.size + (0 : Int).toNat)), some (jv_i a1), some (jv_i a2), none] []
  unfold wp_X8_countIfSolved at h
  refine jv_aload_n C dX8_countIfSolved_0 rfl ?_
  refine jv_getr C kf_X8_39 sS_0 rfl dX8_countIfSolved_1 ?_
  refine jv_iload_n C dX8_countIfSolved_4 rfl ?_
  obtain ⟨hb_5, h⟩ := h
  refine jv_aaldP C hb_5 dX8_countIfSolved_5 ?_
  refine jv_astore_n (ls' := [some (.ref (s0.heap.size + (0 : Int).toNat)), some (jv_i a1), some (jv_i a2), some (.ref (s0.heap.size + (30 + 3 * a2 : Int).toNat))]) C dX8_countIfSolved_6 (Nat.lt_of_lt_of_eq (Nat.le_of_ble_eq_true rfl) hml) rfl ?_
  refine jv_aload_n C dX8_countIfSolved_7 rfl ?_
  refine jv_getr C kf_X8_45 sS_0 rfl dX8_countIfSolved_8 ?_
  refine jv_iload_n C dX8_countIfSolved_11 rfl ?_
  obtain ⟨hb_12, h⟩ := h
  refine jv_aaldS C hb_12 dX8_countIfSolved_12 ?_
  refine jv_callV C (M_X4_progress (jv_sv hb_12.1 hb_12.2)) kw_X8_282 (jv_sv hb_12.1 hb_12.2).1 rfl rfl ⟨rfl, rfl⟩ (st := []) rfl rfl ⟨rfl, rfl⟩ dX8_countIfSolved_13 ?_
  rintro _ g_13 ⟨rfl, rfl⟩
  show jv_V p l e (jv_rm 3 74 0 0) s m args below meth c 0 0 (jv_ZM below s0 D ids ex jv_SH (jv_qv Q) args s 0 0) s0 D ids ex jv_SH g 16 [some (.ref (s0.heap.size + (0 : Int).toNat)), some (jv_i a1), some (jv_i a2), some (.ref (s0.heap.size + (30 + 3 * a2 : Int).toNat))] [.ref (s0.heap.size + (90 + 6 * a1 + 1 : Int).toNat)]
  refine jv_iload_n C dX8_countIfSolved_16 rfl ?_
  refine jv_aload_n C dX8_countIfSolved_17 rfl ?_
  refine jv_callVi C (M_X3_openCells (jv_pz hb_5.1 hb_5.2) h) kw_X8_264 (jv_pz hb_5.1 hb_5.2).1 rfl rfl ⟨rfl, rfl⟩ (st := [jv_i a2, .ref (s0.heap.size + (90 + 6 * a1 + 1 : Int).toNat)]) rfl rfl ⟨rfl, rfl⟩ dX8_countIfSolved_18 (fun r_18 g_18 h => ?_)
  refine jv_aload_n C dX8_countIfSolved_21 rfl ?_
  refine jv_callVi C (M_X3_hourOfAppearing (jv_pz hb_5.1 hb_5.2) h) kw_X8_286 (jv_pz hb_5.1 hb_5.2).1 rfl rfl ⟨rfl, rfl⟩ (st := [jv_i r_18, jv_i a2, .ref (s0.heap.size + (90 + 6 * a1 + 1 : Int).toNat)]) rfl rfl ⟨rfl, rfl⟩ dX8_countIfSolved_22 (fun r_22 g_22 h => ?_)
  refine jv_callVv C (M_X2_countIfSolved (jv_sv hb_12.1 hb_12.2).2.2.2 h) kw_X8_351 (jv_sv hb_12.1 hb_12.2).2.2.2.1 rfl rfl ⟨rfl, rfl⟩ (st := []) rfl rfl ⟨rfl, rfl⟩ dX8_countIfSolved_25 (fun g_25 h => ?_)
  exact jv_vret C hr hlk ⟨rfl, h⟩ dX8_countIfSolved_28 ⟨rfl, rfl⟩

def wp_X8_becomeRight (a1 : Int) (a2 : Int) (a3 : Int) (Q : jv_Mem → Prop) (g : jv_Mem) : Prop :=
  (wp_X1_add a1 a2 a3 (g 0 11) (fun (g_11 : jv_Mem) => (((0 : Int) ≤ a1 ∧ a1 < (6 : Int)) ∧ (wp_X2_setRight (90 + 6 * a1 + 1) a2 a3 (g_11 0 11) (fun (g_29 : jv_Mem) => (wp_X8_countIfSolved a1 a2 (fun (g_35 : jv_Mem) => Q g_35) g_29)) g_11))) g)
set_option maxHeartbeats 4000000 in
set_option maxRecDepth 100000 in
theorem M_X8_becomeRight {l : Launch} {s0 : State} {b0 : Addr} {D : va_G} {ids : Nat → ClassId} {ex : Option Nat} {g : jv_Mem} {a1 : Int} {a2 : Int} {a3 : Int} {Q : jv_Mem → Prop} (h : wp_X8_becomeRight a1 a2 a3 Q g) : jv_M l s0 b0 D ids yX8_becomeRight cX8_becomeRight 4 none 4 97 0 0 ex jv_SH g [.ref (s0.heap.size + (0 : Int).toNat), jv_i a1, jv_i a2, jv_i a3] ex jv_SH (jv_qv Q) := by
  refine jv_M.of (by decide +kernel) rfl rfl (fun p e s m args below meth c C hml hr hlk hnm => ?_)
  replace C : jv_C p s m args c cX8_becomeRight RX8 s0 b0 D ids := C
  show jv_V p l e (jv_rm 4 97 0 0) s m args below meth c 0 0 (jv_ZM below s0 D ids ex jv_SH (jv_qv Q) args s 0 0) s0 D ids ex jv_SH g 0 [some (.ref (s0.heap.size + (0 : Int).toNat)), some (jv_i a1), some (jv_i a2), some (jv_i a3)] []
  unfold wp_X8_becomeRight at h
  refine jv_aload_n C dX8_becomeRight_0 rfl ?_
  refine jv_getr C kf_X8_52 sS_0 rfl dX8_becomeRight_1 ?_
  refine jv_iload_n C dX8_becomeRight_4 rfl ?_
  refine jv_iload_n C dX8_becomeRight_5 rfl ?_
  refine jv_iload_n C dX8_becomeRight_6 rfl ?_
  refine jv_aload_n C dX8_becomeRight_7 rfl ?_
  refine jv_geti C kf_X8_190 sS_0 rfl dX8_becomeRight_8 ?_
  refine jv_callVv C (M_X1_add h) kw_X8_270 sS_21 rfl rfl ⟨rfl, rfl⟩ (st := []) rfl rfl ⟨rfl, rfl⟩ dX8_becomeRight_11 (fun g_11 h => ?_)
  refine jv_aload_n C dX8_becomeRight_14 rfl ?_
  refine jv_getr C kf_X8_45 sS_0 rfl dX8_becomeRight_15 ?_
  refine jv_iload_n C dX8_becomeRight_18 rfl ?_
  obtain ⟨hb_19, h⟩ := h
  refine jv_aaldS C hb_19 dX8_becomeRight_19 ?_
  refine jv_callV C (M_X4_progress (jv_sv hb_19.1 hb_19.2)) kw_X8_282 (jv_sv hb_19.1 hb_19.2).1 rfl rfl ⟨rfl, rfl⟩ (st := []) rfl rfl ⟨rfl, rfl⟩ dX8_becomeRight_20 ?_
  rintro _ g_20 ⟨rfl, rfl⟩
  show jv_V p l e (jv_rm 4 97 0 0) s m args below meth c 0 0 (jv_ZM below s0 D ids ex jv_SH (jv_qv Q) args s 0 0) s0 D ids ex jv_SH g_11 23 [some (.ref (s0.heap.size + (0 : Int).toNat)), some (jv_i a1), some (jv_i a2), some (jv_i a3)] [.ref (s0.heap.size + (90 + 6 * a1 + 1 : Int).toNat)]
  refine jv_iload_n C dX8_becomeRight_23 rfl ?_
  refine jv_iload_n C dX8_becomeRight_24 rfl ?_
  refine jv_aload_n C dX8_becomeRight_25 rfl ?_
  refine jv_geti C kf_X8_190 sS_0 rfl dX8_becomeRight_26 ?_
  refine jv_callVv C (M_X2_setRight (jv_sv hb_19.1 hb_19.2).2.2.2 h) kw_X8_348 (jv_sv hb_19.1 hb_19.2).2.2.2.1 rfl rfl ⟨rfl, rfl⟩ (st := []) rfl rfl ⟨rfl, rfl⟩ dX8_becomeRight_29 (fun g_29 h => ?_)
  refine jv_aload_n C dX8_becomeRight_32 rfl ?_
  refine jv_iload_n C dX8_becomeRight_33 rfl ?_
  refine jv_iload_n C dX8_becomeRight_34 rfl ?_
  refine jv_callVv C (M_X8_countIfSolved h) kw_X8_279 sS_0 rfl rfl ⟨rfl, rfl⟩ (st := []) rfl rfl ⟨rfl, rfl⟩ dX8_becomeRight_35 (fun g_35 h => ?_)
  exact jv_vret C hr hlk ⟨rfl, h⟩ dX8_becomeRight_38 ⟨rfl, rfl⟩

def wp_X8_keptStreak (a1 : Int) (Q : Int → jv_Mem → Prop) (g : jv_Mem) : Prop :=
  (((0 : Int) ≤ a1 ∧ a1 < (6 : Int)) ∧ (wp_X2_daysInARow (90 + 6 * a1 + 1) (g 0 11) (fun (r_13 : Int) (g_13 : jv_Mem) => Q r_13 g_13) g))
set_option maxHeartbeats 4000000 in
set_option maxRecDepth 100000 in
theorem M_X8_keptStreak {l : Launch} {s0 : State} {b0 : Addr} {D : va_G} {ids : Nat → ClassId} {ex : Option Nat} {g : jv_Mem} {a1 : Int} {Q : Int → jv_Mem → Prop} (h : wp_X8_keptStreak a1 Q g) : jv_M l s0 b0 D ids yX8_keptStreak cX8_keptStreak 2 (some .int) 3 67 0 0 ex jv_SH g [.ref (s0.heap.size + (0 : Int).toNat), jv_i a1] ex jv_SH (jv_qi Q) := by
  refine jv_M.of (by decide +kernel) rfl rfl (fun p e s m args below meth c C hml hr hlk hnm => ?_)
  replace C : jv_C p s m args c cX8_keptStreak RX8 s0 b0 D ids := C
  show jv_V p l e (jv_rm 3 67 0 0) s m args below meth c 0 0 (jv_ZM below s0 D ids ex jv_SH (jv_qi Q) args s 0 0) s0 D ids ex jv_SH g 0 [some (.ref (s0.heap.size + (0 : Int).toNat)), some (jv_i a1)] []
  unfold wp_X8_keptStreak at h
  refine jv_aload_n C dX8_keptStreak_0 rfl ?_
  refine jv_getr C kf_X8_45 sS_0 rfl dX8_keptStreak_1 ?_
  refine jv_iload_n C dX8_keptStreak_4 rfl ?_
  obtain ⟨hb_5, h⟩ := h
  refine jv_aaldS C hb_5 dX8_keptStreak_5 ?_
  refine jv_callV C (M_X4_progress (jv_sv hb_5.1 hb_5.2)) kw_X8_282 (jv_sv hb_5.1 hb_5.2).1 rfl rfl ⟨rfl, rfl⟩ (st := []) rfl rfl ⟨rfl, rfl⟩ dX8_keptStreak_6 ?_
  rintro _ g_6 ⟨rfl, rfl⟩
  show jv_V p l e (jv_rm 3 67 0 0) s m args below meth c 0 0 (jv_ZM below s0 D ids ex jv_SH (jv_qi Q) args s 0 0) s0 D ids ex jv_SH g 9 [some (.ref (s0.heap.size + (0 : Int).toNat)), some (jv_i a1)] [.ref (s0.heap.size + (90 + 6 * a1 + 1 : Int).toNat)]
  refine jv_aload_n C dX8_keptStreak_9 rfl ?_
  refine jv_geti C kf_X8_190 sS_0 rfl dX8_keptStreak_10 ?_
  refine jv_callVi C (M_X2_daysInARow (jv_sv hb_5.1 hb_5.2).2.2.2 h) kw_X8_312 (jv_sv hb_5.1 hb_5.2).2.2.2.1 rfl rfl ⟨rfl, rfl⟩ (st := []) rfl rfl ⟨rfl, rfl⟩ dX8_keptStreak_13 (fun r_13 g_13 h => ?_)
  exact jv_iret C hr hlk ⟨_, rfl, h⟩ dX8_keptStreak_16 ⟨rfl, rfl⟩

def wB_X8_replay_84 (Q : jv_Mem → Prop) (r_5 : Int) (gj_84 : jv_Mem) : Prop :=
  (((0 : Int) ≤ r_5 ∧ r_5 < (20 : Int)) ∧ (((0 : Int) ≤ r_5 ∧ r_5 < (20 : Int)) ∧ (wp_X3_hourOfAppearing (30 + 3 * r_5) (fun (r_101 : Int) (g_101 : jv_Mem) => (wp_X2_countIfSolved 26 r_5 (gj_84 29 r_5) r_101 (fun (g_104 : jv_Mem) => Q g_104) g_101)) gj_84)))
def wp_X8_replay (a1 : Int) (a2 : Int) (Q : jv_Mem → Prop) (g : jv_Mem) : Prop :=
  (wp_X1_puzzle a1 (fun (r_5 : Int) (g_5 : jv_Mem) => (wp_X1_solver a1 (fun (r_14 : Int) (g_14 : jv_Mem) => ((jv_r r_14) ∧ (¬ r_14 = ((-1)) → (wp_X1_solver a1 (fun (r_49 : Int) (g_49 : jv_Mem) => ((jv_r r_49 ∧ jv_r a2) ∧ (¬ r_49 = a2 → Q g_49) ∧ (r_49 = a2 → (wp_X1_part a1 (fun (r_66 : Int) (g_66 : jv_Mem) => (wp_X1_hourOf a1 (fun (r_74 : Int) (g_74 : jv_Mem) => (wp_X2_setRight 26 r_5 r_66 r_74 (fun (g_77 : jv_Mem) => wB_X8_replay_84 Q r_5 g_77) g_74)) g_66)) g_49)))) g_14)) ∧ (r_14 = ((-1)) → (((0 : Int) ≤ r_5 ∧ r_5 < (20 : Int)) ∧ (wp_X1_part a1 (fun (r_33 : Int) (g_33 : jv_Mem) => (wp_X8_cellsOf r_33 (fun (r_36 : Int) (g_36 : jv_Mem) => (((0 : Int) ≤ r_5 ∧ r_5 < (20 : Int)) ∧ (∀ g_40 : jv_Mem, g_40 = jv_up g_36 29 r_5 (jv_or (g_14 29 r_5) r_36) → wB_X8_replay_84 Q r_5 g_40))) g_33)) g_14))))) g_5)) g)
set_option maxHeartbeats 4000000 in
set_option maxRecDepth 100000 in
theorem M_X8_replay {l : Launch} {s0 : State} {b0 : Addr} {D : va_G} {ids : Nat → ClassId} {ex : Option Nat} {g : jv_Mem} {a1 : Int} {a2 : Int} {Q : jv_Mem → Prop} (h : wp_X8_replay a1 a2 Q g) : jv_M l s0 b0 D ids yX8_replay cX8_replay 4 none 3 74 0 0 ex jv_SH g [.ref (s0.heap.size + (0 : Int).toNat), jv_i a1, jv_i a2] ex jv_SH (jv_qv Q) := by
  refine jv_M.of (by decide +kernel) rfl rfl (fun p e s m args below meth c C hml hr hlk hnm => ?_)
  replace C : jv_C p s m args c cX8_replay RX8 s0 b0 D ids := C
  show jv_V p l e (jv_rm 3 74 0 0) s m args below meth c 0 0 (jv_ZM below s0 D ids ex jv_SH (jv_qv Q) args s 0 0) s0 D ids ex jv_SH g 0 [some (.ref (s0.heap.size + (0 : Int).toNat)), some (jv_i a1), some (jv_i a2), none] []
  unfold wp_X8_replay at h
  refine jv_aload_n C dX8_replay_0 rfl ?_
  refine jv_getr C kf_X8_52 sS_0 rfl dX8_replay_1 ?_
  refine jv_iload_n C dX8_replay_4 rfl ?_
  refine jv_callVi C (M_X1_puzzle h) kw_X8_353 sS_21 rfl rfl ⟨rfl, rfl⟩ (st := []) rfl rfl ⟨rfl, rfl⟩ dX8_replay_5 (fun r_5 g_5 h => ?_)
  refine jv_istore_n (ls' := [some (.ref (s0.heap.size + (0 : Int).toNat)), some (jv_i a1), some (jv_i a2), some (jv_i r_5)]) C dX8_replay_8 (Nat.lt_of_lt_of_eq (Nat.le_of_ble_eq_true rfl) hml) rfl ?_
  refine jv_aload_n C dX8_replay_9 rfl ?_
  refine jv_getr C kf_X8_52 sS_0 rfl dX8_replay_10 ?_
  refine jv_iload_n C dX8_replay_13 rfl ?_
  refine jv_callVi C (M_X1_solver h) kw_X8_356 sS_21 rfl rfl ⟨rfl, rfl⟩ (st := []) rfl rfl ⟨rfl, rfl⟩ dX8_replay_14 (fun r_14 g_14 h => ?_)
  refine jv_const C dX8_replay_17 ?_
  have hJ84 : ∀ (gj_84 : jv_Mem), wB_X8_replay_84 Q r_5 gj_84 → jv_V p l e (jv_rm 3 74 0 0) s m args below meth c 0 0 (jv_ZM below s0 D ids ex jv_SH (jv_qv Q) args s 0 0) s0 D ids ex jv_SH gj_84 84 [some (.ref (s0.heap.size + (0 : Int).toNat)), none, none, some (jv_i r_5)] [] := by
    intro gj_84 h
    unfold wB_X8_replay_84 at h
    refine jv_aload_n C dX8_replay_84 rfl ?_
    refine jv_getr C kf_X8_59 sS_0 rfl dX8_replay_85 ?_
    refine jv_iload_n C dX8_replay_88 rfl ?_
    refine jv_aload_n C dX8_replay_89 rfl ?_
    refine jv_getr C kf_X8_63 sS_0 rfl dX8_replay_90 ?_
    refine jv_iload_n C dX8_replay_93 rfl ?_
    obtain ⟨hb_94, h⟩ := h
    refine jv_iald C sS_29 rfl hb_94 dX8_replay_94 ?_
    refine jv_aload_n C dX8_replay_95 rfl ?_
    refine jv_getr C kf_X8_39 sS_0 rfl dX8_replay_96 ?_
    refine jv_iload_n C dX8_replay_99 rfl ?_
    obtain ⟨hb_100, h⟩ := h
    refine jv_aaldP C hb_100 dX8_replay_100 ?_
    refine jv_callVi C (M_X3_hourOfAppearing (jv_pz hb_100.1 hb_100.2) h) kw_X8_286 (jv_pz hb_100.1 hb_100.2).1 rfl rfl ⟨rfl, rfl⟩ (st := [jv_i (gj_84 29 r_5), jv_i r_5, .ref (s0.heap.size + (26 : Int).toNat)]) rfl rfl ⟨rfl, rfl⟩ dX8_replay_101 (fun r_101 g_101 h => ?_)
    refine jv_callVv C (M_X2_countIfSolved jv_pg26 h) kw_X8_351 jv_pg26.1 rfl rfl ⟨rfl, rfl⟩ (st := []) rfl rfl ⟨rfl, rfl⟩ dX8_replay_104 (fun g_104 h => ?_)
    exact jv_vret C hr hlk ⟨rfl, h⟩ dX8_replay_107 ⟨rfl, rfl⟩
  obtain ⟨hr_18, h1_18, h2_18⟩ := h
  refine jv_icmp_ne (tgt := 44) C hr_18 ⟨by decide, by decide⟩ dX8_replay_18 rfl (fun hc_18 => ?_) (fun hc_18 => ?_)
  · replace h := h1_18 hc_18
    refine jv_aload_n C dX8_replay_44 rfl ?_
    refine jv_getr C kf_X8_52 sS_0 rfl dX8_replay_45 ?_
    refine jv_iload_n C dX8_replay_48 rfl ?_
    refine jv_callVi C (M_X1_solver h) kw_X8_356 sS_21 rfl rfl ⟨rfl, rfl⟩ (st := []) rfl rfl ⟨rfl, rfl⟩ dX8_replay_49 (fun r_49 g_49 h => ?_)
    refine jv_iload_n C dX8_replay_52 rfl ?_
    obtain ⟨hr_53, h1_53, h2_53⟩ := h
    refine jv_icmp_ne (tgt := 83) C hr_53.1 hr_53.2 dX8_replay_53 rfl (fun hc_53 => ?_) (fun hc_53 => ?_)
    · replace h := h1_53 hc_53
      exact jv_vret C hr hlk ⟨rfl, h⟩ dX8_replay_83 ⟨rfl, rfl⟩
    · replace h := h2_53 hc_53
      refine jv_aload_n C dX8_replay_56 rfl ?_
      refine jv_getr C kf_X8_59 sS_0 rfl dX8_replay_57 ?_
      refine jv_iload_n C dX8_replay_60 rfl ?_
      refine jv_aload_n C dX8_replay_61 rfl ?_
      refine jv_getr C kf_X8_52 sS_0 rfl dX8_replay_62 ?_
      refine jv_iload_n C dX8_replay_65 rfl ?_
      refine jv_callVi C (M_X1_part h) kw_X8_359 sS_21 rfl rfl ⟨rfl, rfl⟩ (st := [jv_i r_5, .ref (s0.heap.size + (26 : Int).toNat)]) rfl rfl ⟨rfl, rfl⟩ dX8_replay_66 (fun r_66 g_66 h => ?_)
      refine jv_aload_n C dX8_replay_69 rfl ?_
      refine jv_getr C kf_X8_52 sS_0 rfl dX8_replay_70 ?_
      refine jv_iload_n C dX8_replay_73 rfl ?_
      refine jv_callVi C (M_X1_hourOf h) kw_X8_362 sS_21 rfl rfl ⟨rfl, rfl⟩ (st := [jv_i r_66, jv_i r_5, .ref (s0.heap.size + (26 : Int).toNat)]) rfl rfl ⟨rfl, rfl⟩ dX8_replay_74 (fun r_74 g_74 h => ?_)
      refine jv_callVv C (M_X2_setRight jv_pg26 h) kw_X8_348 jv_pg26.1 rfl rfl ⟨rfl, rfl⟩ (st := []) rfl rfl ⟨rfl, rfl⟩ dX8_replay_77 (fun g_77 h => ?_)
      refine jv_goto (tgt := 84) C dX8_replay_80 rfl ?_
      exact jv_less (ls' := [some (.ref (s0.heap.size + (0 : Int).toNat)), none, none, some (jv_i r_5)]) ⟨rfl, ⟨rfl, trivial⟩⟩ (hJ84 _ h)
  · replace h := h2_18 hc_18
    refine jv_aload_n C dX8_replay_21 rfl ?_
    refine jv_getr C kf_X8_63 sS_0 rfl dX8_replay_22 ?_
    refine jv_iload_n C dX8_replay_25 rfl ?_
    refine jv_dup2 C rfl rfl dX8_replay_26 ?_
    obtain ⟨hb_27, h⟩ := h
    refine jv_iald C sS_29 rfl hb_27 dX8_replay_27 ?_
    refine jv_aload_n C dX8_replay_28 rfl ?_
    refine jv_getr C kf_X8_52 sS_0 rfl dX8_replay_29 ?_
    refine jv_iload_n C dX8_replay_32 rfl ?_
    refine jv_callVi C (M_X1_part h) kw_X8_359 sS_21 rfl rfl ⟨rfl, rfl⟩ (st := [jv_i (g_14 29 r_5), jv_i r_5, .ref (s0.heap.size + (29 : Int).toNat)]) rfl rfl ⟨rfl, rfl⟩ dX8_replay_33 (fun r_33 g_33 h => ?_)
    refine jv_callSi C (M_X8_cellsOf h) kw_X8_261 rfl ⟨rfl, rfl⟩ (st := [jv_i (g_14 29 r_5), jv_i r_5, .ref (s0.heap.size + (29 : Int).toNat)]) rfl rfl ⟨rfl, rfl⟩ dX8_replay_36 (fun r_36 g_36 h => ?_)
    refine jv_ior C dX8_replay_39 ?_
    obtain ⟨hb_40, h⟩ := h
    refine jv_iast C sS_29 rfl hb_40 dX8_replay_40 (jv_gm (fun g_40 eg_40 => ?_))
    replace h := h g_40 eg_40
    refine jv_goto (tgt := 84) C dX8_replay_41 rfl ?_
    exact jv_less (ls' := [some (.ref (s0.heap.size + (0 : Int).toNat)), none, none, some (jv_i r_5)]) ⟨rfl, ⟨rfl, trivial⟩⟩ (hJ84 _ h)

def wp_X8_isAhead (a1 : Int) (a2 : Int) (Q : Int → jv_Mem → Prop) (g : jv_Mem) : Prop :=
  (wp_X8_keptStreak a1 (fun (r_2 : Int) (g_2 : jv_Mem) => (wp_X8_keptStreak a2 (fun (r_8 : Int) (g_8 : jv_Mem) => ((jv_r r_2 ∧ jv_r r_8) ∧ (r_2 = r_8 → (((0 : Int) ≤ a1 ∧ a1 < (6 : Int)) ∧ (wp_X4_purse (90 + 6 * a1) (fun (r_37 : Int) (g_37 : jv_Mem) => (((0 : Int) ≤ a2 ∧ a2 < (6 : Int)) ∧ (wp_X4_purse (90 + 6 * a2) (fun (r_48 : Int) (g_48 : jv_Mem) => ((jv_r r_37 ∧ jv_r r_48) ∧ (r_37 = r_48 → ((jv_r a1 ∧ jv_r a2) ∧ (a2 ≤ a1 → Q 0 g_48) ∧ (a1 < a2 → Q 1 g_48))) ∧ (¬ r_37 = r_48 → ((jv_r r_37 ∧ jv_r r_48) ∧ (r_37 ≤ r_48 → Q 0 g_48) ∧ (r_48 < r_37 → Q 1 g_48))))) g_37))) g_8))) ∧ (¬ r_2 = r_8 → ((jv_r r_2 ∧ jv_r r_8) ∧ (r_2 ≤ r_8 → Q 0 g_8) ∧ (r_8 < r_2 → Q 1 g_8))))) g_2)) g)
set_option maxHeartbeats 4000000 in
set_option maxRecDepth 100000 in
theorem M_X8_isAhead {l : Launch} {s0 : State} {b0 : Addr} {D : va_G} {ids : Nat → ClassId} {ex : Option Nat} {g : jv_Mem} {a1 : Int} {a2 : Int} {Q : Int → jv_Mem → Prop} (h : wp_X8_isAhead a1 a2 Q g) : jv_M l s0 b0 D ids yX8_isAhead cX8_isAhead 7 (some .boolean) 4 88 0 0 ex jv_SH g [.ref (s0.heap.size + (0 : Int).toNat), jv_i a1, jv_i a2] ex jv_SH (jv_qi Q) := by
  refine jv_M.of (by decide +kernel) rfl rfl (fun p e s m args below meth c C hml hr hlk hnm => ?_)
  replace C : jv_C p s m args c cX8_isAhead RX8 s0 b0 D ids := C
  show jv_V p l e (jv_rm 4 88 0 0) s m args below meth c 0 0 (jv_ZM below s0 D ids ex jv_SH (jv_qi Q) args s 0 0) s0 D ids ex jv_SH g 0 [some (.ref (s0.heap.size + (0 : Int).toNat)), some (jv_i a1), some (jv_i a2), none, none, none, none] []
  unfold wp_X8_isAhead at h
  refine jv_aload_n C dX8_isAhead_0 rfl ?_
  refine jv_iload_n C dX8_isAhead_1 rfl ?_
  refine jv_callVi C (M_X8_keptStreak h) kw_X8_273 sS_0 rfl rfl ⟨rfl, rfl⟩ (st := []) rfl rfl ⟨rfl, rfl⟩ dX8_isAhead_2 (fun r_2 g_2 h => ?_)
  refine jv_istore_n (ls' := [some (.ref (s0.heap.size + (0 : Int).toNat)), some (jv_i a1), some (jv_i a2), some (jv_i r_2), none, none, none]) C dX8_isAhead_5 (Nat.lt_of_lt_of_eq (Nat.le_of_ble_eq_true rfl) hml) rfl ?_
  refine jv_aload_n C dX8_isAhead_6 rfl ?_
  refine jv_iload_n C dX8_isAhead_7 rfl ?_
  refine jv_callVi C (M_X8_keptStreak h) kw_X8_273 sS_0 rfl rfl ⟨rfl, rfl⟩ (st := []) rfl rfl ⟨rfl, rfl⟩ dX8_isAhead_8 (fun r_8 g_8 h => ?_)
  refine jv_istore (ls' := [some (.ref (s0.heap.size + (0 : Int).toNat)), some (jv_i a1), some (jv_i a2), some (jv_i r_2), some (jv_i r_8), none, none]) C dX8_isAhead_11 (Nat.lt_of_lt_of_eq (Nat.le_of_ble_eq_true rfl) hml) rfl ?_
  refine jv_iload_n C dX8_isAhead_13 rfl ?_
  refine jv_iload C dX8_isAhead_14 rfl ?_
  obtain ⟨hr_16, h1_16, h2_16⟩ := h
  refine jv_icmp_eq (tgt := 31) C hr_16.1 hr_16.2 dX8_isAhead_16 rfl (fun hc_16 => ?_) (fun hc_16 => ?_)
  · replace h := h1_16 hc_16
    refine jv_aload_n C dX8_isAhead_31 rfl ?_
    refine jv_getr C kf_X8_45 sS_0 rfl dX8_isAhead_32 ?_
    refine jv_iload_n C dX8_isAhead_35 rfl ?_
    obtain ⟨hb_36, h⟩ := h
    refine jv_aaldS C hb_36 dX8_isAhead_36 ?_
    refine jv_callVi C (M_X4_purse (jv_sv hb_36.1 hb_36.2) h) kw_X8_293 (jv_sv hb_36.1 hb_36.2).1 rfl rfl ⟨rfl, rfl⟩ (st := []) rfl rfl ⟨rfl, rfl⟩ dX8_isAhead_37 (fun r_37 g_37 h => ?_)
    refine jv_istore (ls' := [some (.ref (s0.heap.size + (0 : Int).toNat)), some (jv_i a1), some (jv_i a2), some (jv_i r_2), some (jv_i r_8), some (jv_i r_37), none]) C dX8_isAhead_40 (Nat.lt_of_lt_of_eq (Nat.le_of_ble_eq_true rfl) hml) rfl ?_
    refine jv_aload_n C dX8_isAhead_42 rfl ?_
    refine jv_getr C kf_X8_45 sS_0 rfl dX8_isAhead_43 ?_
    refine jv_iload_n C dX8_isAhead_46 rfl ?_
    obtain ⟨hb_47, h⟩ := h
    refine jv_aaldS C hb_47 dX8_isAhead_47 ?_
    refine jv_callVi C (M_X4_purse (jv_sv hb_47.1 hb_47.2) h) kw_X8_293 (jv_sv hb_47.1 hb_47.2).1 rfl rfl ⟨rfl, rfl⟩ (st := []) rfl rfl ⟨rfl, rfl⟩ dX8_isAhead_48 (fun r_48 g_48 h => ?_)
    refine jv_istore (ls' := [some (.ref (s0.heap.size + (0 : Int).toNat)), some (jv_i a1), some (jv_i a2), some (jv_i r_2), some (jv_i r_8), some (jv_i r_37), some (jv_i r_48)]) C dX8_isAhead_51 (Nat.lt_of_lt_of_eq (Nat.le_of_ble_eq_true rfl) hml) rfl ?_
    refine jv_iload C dX8_isAhead_53 rfl ?_
    refine jv_iload C dX8_isAhead_55 rfl ?_
    obtain ⟨hr_57, h1_57, h2_57⟩ := h
    refine jv_icmp_eq (tgt := 75) C hr_57.1 hr_57.2 dX8_isAhead_57 rfl (fun hc_57 => ?_) (fun hc_57 => ?_)
    · replace h := h1_57 hc_57
      refine jv_iload_n C dX8_isAhead_75 rfl ?_
      refine jv_iload_n C dX8_isAhead_76 rfl ?_
      obtain ⟨hr_77, h1_77, h2_77⟩ := h
      refine jv_icmp_ge (tgt := 84) C hr_77.1 hr_77.2 dX8_isAhead_77 rfl (fun hc_77 => ?_) (fun hc_77 => ?_)
      · replace h := h1_77 hc_77
        refine jv_const C dX8_isAhead_84 ?_
        exact jv_zret C hr hlk rfl ⟨_, rfl, h⟩ dX8_isAhead_85 ⟨rfl, rfl⟩
      · replace h := h2_77 hc_77
        refine jv_const C dX8_isAhead_80 ?_
        refine jv_goto (tgt := 85) C dX8_isAhead_81 rfl ?_
        exact jv_zret C hr hlk rfl ⟨_, rfl, h⟩ dX8_isAhead_85 ⟨rfl, rfl⟩
    · replace h := h2_57 hc_57
      refine jv_iload C dX8_isAhead_60 rfl ?_
      refine jv_iload C dX8_isAhead_62 rfl ?_
      obtain ⟨hr_64, h1_64, h2_64⟩ := h
      refine jv_icmp_le (tgt := 71) C hr_64.1 hr_64.2 dX8_isAhead_64 rfl (fun hc_64 => ?_) (fun hc_64 => ?_)
      · replace h := h1_64 hc_64
        refine jv_const C dX8_isAhead_71 ?_
        refine jv_goto (tgt := 85) C dX8_isAhead_72 rfl ?_
        exact jv_zret C hr hlk rfl ⟨_, rfl, h⟩ dX8_isAhead_85 ⟨rfl, rfl⟩
      · replace h := h2_64 hc_64
        refine jv_const C dX8_isAhead_67 ?_
        refine jv_goto (tgt := 85) C dX8_isAhead_68 rfl ?_
        exact jv_zret C hr hlk rfl ⟨_, rfl, h⟩ dX8_isAhead_85 ⟨rfl, rfl⟩
  · replace h := h2_16 hc_16
    refine jv_iload_n C dX8_isAhead_19 rfl ?_
    refine jv_iload C dX8_isAhead_20 rfl ?_
    obtain ⟨hr_22, h1_22, h2_22⟩ := h
    refine jv_icmp_le (tgt := 29) C hr_22.1 hr_22.2 dX8_isAhead_22 rfl (fun hc_22 => ?_) (fun hc_22 => ?_)
    · replace h := h1_22 hc_22
      refine jv_const C dX8_isAhead_29 ?_
      exact jv_zret C hr hlk rfl ⟨_, rfl, h⟩ dX8_isAhead_30 ⟨rfl, rfl⟩
    · replace h := h2_22 hc_22
      refine jv_const C dX8_isAhead_25 ?_
      refine jv_goto (tgt := 30) C dX8_isAhead_26 rfl ?_
      exact jv_zret C hr hlk rfl ⟨_, rfl, h⟩ dX8_isAhead_30 ⟨rfl, rfl⟩

def wB_X8_rank_29 (K4 : Int → Int → jv_Mem → Prop) (x3_4 : Int) (x2_29 : Int) (gj_29 : jv_Mem) : Prop :=
  (∀ v3_29 : Int, v3_29 = x3_4 + 1 → K4 x2_29 v3_29 gj_29)
def wp_X8_rank (a1 : Int) (Q : Int → jv_Mem → Prop) (g : jv_Mem) : Prop :=
  jv_lp2 (fun (K4 : Int → Int → jv_Mem → Prop) (x2_4 x3_4 : Int) (gl_4 : jv_Mem) => ((jv_r x3_4 ∧ jv_r (gl_4 0 10)) ∧ ((gl_4 0 10) ≤ x3_4 → Q x2_4 gl_4) ∧ (x3_4 < (gl_4 0 10) → ((jv_r x3_4 ∧ jv_r a1) ∧ (x3_4 = a1 → wB_X8_rank_29 K4 x3_4 x2_4 gl_4) ∧ (¬ x3_4 = a1 → (wp_X8_isAhead x3_4 a1 (fun (r_20 : Int) (g_20 : jv_Mem) => ((jv_r r_20) ∧ (r_20 = 0 → wB_X8_rank_29 K4 x3_4 x2_4 g_20) ∧ (¬ r_20 = 0 → (∀ v2_26 : Int, v2_26 = x2_4 + 1 → wB_X8_rank_29 K4 x3_4 v2_26 g_20)))) gl_4)))))) 0 0 g
set_option maxHeartbeats 4000000 in
set_option maxRecDepth 100000 in
theorem M_X8_rank {l : Launch} {s0 : State} {b0 : Addr} {D : va_G} {ids : Nat → ClassId} {ex : Option Nat} {g : jv_Mem} {a1 : Int} {Q : Int → jv_Mem → Prop} (h : wp_X8_rank a1 Q g) : jv_M l s0 b0 D ids yX8_rank cX8_rank 4 (some .int) 5 114 0 0 ex jv_SH g [.ref (s0.heap.size + (0 : Int).toNat), jv_i a1] ex jv_SH (jv_qi Q) := by
  refine jv_M.of (by decide +kernel) rfl rfl (fun p e s m args below meth c C hml hr hlk hnm => ?_)
  replace C : jv_C p s m args c cX8_rank RX8 s0 b0 D ids := C
  show jv_V p l e (jv_rm 5 114 0 0) s m args below meth c 0 0 (jv_ZM below s0 D ids ex jv_SH (jv_qi Q) args s 0 0) s0 D ids ex jv_SH g 0 [some (.ref (s0.heap.size + (0 : Int).toNat)), some (jv_i a1), none, none] []
  unfold wp_X8_rank at h
  refine jv_const C dX8_rank_0 ?_
  refine jv_istore_n (ls' := [some (.ref (s0.heap.size + (0 : Int).toNat)), some (jv_i a1), some (jv_i 0), none]) C dX8_rank_1 (Nat.lt_of_lt_of_eq (Nat.le_of_ble_eq_true rfl) hml) rfl ?_
  refine jv_const C dX8_rank_2 ?_
  refine jv_istore_n (ls' := [some (.ref (s0.heap.size + (0 : Int).toNat)), some (jv_i a1), some (jv_i 0), some (jv_i 0)]) C dX8_rank_3 (Nat.lt_of_lt_of_eq (Nat.le_of_ble_eq_true rfl) hml) rfl ?_
  refine jv_less (ls' := [some (.ref (s0.heap.size + (0 : Int).toNat)), some (jv_i a1), some (jv_i 0), some (jv_i 0)]) ⟨rfl, ⟨rfl, ⟨rfl, ⟨rfl, trivial⟩⟩⟩⟩ ?_
  refine jv_lp2.use h (fun (x2_4 x3_4 : Int) (gl_4 : jv_Mem) => jv_V p l e (jv_rm 5 114 0 0) s m args below meth c 0 0 (jv_ZM below s0 D ids ex jv_SH (jv_qi Q) args s 0 0) s0 D ids ex jv_SH gl_4 4 [some (.ref (s0.heap.size + (0 : Int).toNat)), some (jv_i a1), some (jv_i x2_4), some (jv_i x3_4)] []) ?_
  intro K4 hK4 x2_4 x3_4 gl_4 h
  refine jv_iload_n C dX8_rank_4 rfl ?_
  refine jv_aload_n C dX8_rank_5 rfl ?_
  refine jv_geti C kf_X8_228 sS_0 rfl dX8_rank_6 ?_
  obtain ⟨hr_9, h1_9, h2_9⟩ := h
  refine jv_icmp_ge (tgt := 35) C hr_9.1 hr_9.2 dX8_rank_9 rfl (fun hc_9 => ?_) (fun hc_9 => ?_)
  · replace h := h1_9 hc_9
    refine jv_iload_n C dX8_rank_35 rfl ?_
    exact jv_iret C hr hlk ⟨_, rfl, h⟩ dX8_rank_36 ⟨rfl, rfl⟩
  · replace h := h2_9 hc_9
    refine jv_iload_n C dX8_rank_12 rfl ?_
    refine jv_iload_n C dX8_rank_13 rfl ?_
    have hJ29 : ∀ (x2_29 : Int) (gj_29 : jv_Mem), wB_X8_rank_29 K4 x3_4 x2_29 gj_29 → jv_V p l e (jv_rm 5 114 0 0) s m args below meth c 0 0 (jv_ZM below s0 D ids ex jv_SH (jv_qi Q) args s 0 0) s0 D ids ex jv_SH gj_29 29 [some (.ref (s0.heap.size + (0 : Int).toNat)), some (jv_i a1), some (jv_i x2_29), some (jv_i x3_4)] [] := by
      intro x2_29 gj_29 h
      unfold wB_X8_rank_29 at h
      refine jv_iincn C dX8_rank_29 (Nat.lt_of_lt_of_eq (Nat.le_of_ble_eq_true rfl) hml) rfl (fun v3_29 ev3_29 => ?_)
      replace h := h v3_29 ev3_29
      refine jv_lset (ls' := [some (.ref (s0.heap.size + (0 : Int).toNat)), some (jv_i a1), some (jv_i x2_29), some (jv_i v3_29)]) rfl ?_
      refine jv_goto (tgt := 4) C dX8_rank_32 rfl ?_
      exact jv_less (ls' := [some (.ref (s0.heap.size + (0 : Int).toNat)), some (jv_i a1), some (jv_i x2_29), some (jv_i v3_29)]) ⟨rfl, ⟨rfl, ⟨rfl, ⟨rfl, trivial⟩⟩⟩⟩ (hK4 _ _ _ h)
    obtain ⟨hr_14, h1_14, h2_14⟩ := h
    refine jv_icmp_eq (tgt := 29) C hr_14.1 hr_14.2 dX8_rank_14 rfl (fun hc_14 => ?_) (fun hc_14 => ?_)
    · replace h := h1_14 hc_14
      exact jv_less (ls' := [some (.ref (s0.heap.size + (0 : Int).toNat)), some (jv_i a1), some (jv_i x2_4), some (jv_i x3_4)]) ⟨rfl, ⟨rfl, ⟨rfl, ⟨rfl, trivial⟩⟩⟩⟩ (hJ29 _ _ h)
    · replace h := h2_14 hc_14
      refine jv_aload_n C dX8_rank_17 rfl ?_
      refine jv_iload_n C dX8_rank_18 rfl ?_
      refine jv_iload_n C dX8_rank_19 rfl ?_
      refine jv_callVi C (M_X8_isAhead h) kw_X8_365 sS_0 rfl rfl ⟨rfl, rfl⟩ (st := []) rfl rfl ⟨rfl, rfl⟩ dX8_rank_20 (fun r_20 g_20 h => ?_)
      obtain ⟨hr_23, h1_23, h2_23⟩ := h
      refine jv_if_eq (tgt := 29) C hr_23 dX8_rank_23 rfl (fun hc_23 => ?_) (fun hc_23 => ?_)
      · replace h := h1_23 hc_23
        exact jv_less (ls' := [some (.ref (s0.heap.size + (0 : Int).toNat)), some (jv_i a1), some (jv_i x2_4), some (jv_i x3_4)]) ⟨rfl, ⟨rfl, ⟨rfl, ⟨rfl, trivial⟩⟩⟩⟩ (hJ29 _ _ h)
      · replace h := h2_23 hc_23
        refine jv_iincn C dX8_rank_26 (Nat.lt_of_lt_of_eq (Nat.le_of_ble_eq_true rfl) hml) rfl (fun v2_26 ev2_26 => ?_)
        replace h := h v2_26 ev2_26
        refine jv_lset (ls' := [some (.ref (s0.heap.size + (0 : Int).toNat)), some (jv_i a1), some (jv_i v2_26), some (jv_i x3_4)]) rfl ?_
        exact jv_less (ls' := [some (.ref (s0.heap.size + (0 : Int).toNat)), some (jv_i a1), some (jv_i v2_26), some (jv_i x3_4)]) ⟨rfl, ⟨rfl, ⟨rfl, ⟨rfl, trivial⟩⟩⟩⟩ (hJ29 _ _ h)

def wp_X8_solverAt (a1 : Int) (Q : Int → jv_Mem → Prop) (g : jv_Mem) : Prop :=
  jv_lp1 (fun (K2 : Int → jv_Mem → Prop) (x2_2 : Int) (gl_2 : jv_Mem) => ((jv_r x2_2 ∧ jv_r (gl_2 0 10)) ∧ ((gl_2 0 10) ≤ x2_2 → Q ((-1)) gl_2) ∧ (x2_2 < (gl_2 0 10) → (wp_X8_rank x2_2 (fun (r_12 : Int) (g_12 : jv_Mem) => ((jv_r r_12 ∧ jv_r a1) ∧ (¬ r_12 = a1 → (∀ v2_21 : Int, v2_21 = x2_2 + 1 → K2 v2_21 g_12)) ∧ (r_12 = a1 → Q x2_2 g_12))) gl_2)))) 0 g
set_option maxHeartbeats 4000000 in
set_option maxRecDepth 100000 in
theorem M_X8_solverAt {l : Launch} {s0 : State} {b0 : Addr} {D : va_G} {ids : Nat → ClassId} {ex : Option Nat} {g : jv_Mem} {a1 : Int} {Q : Int → jv_Mem → Prop} (h : wp_X8_solverAt a1 Q g) : jv_M l s0 b0 D ids yX8_solverAt cX8_solverAt 3 (some .int) 6 137 0 0 ex jv_SH g [.ref (s0.heap.size + (0 : Int).toNat), jv_i a1] ex jv_SH (jv_qi Q) := by
  refine jv_M.of (by decide +kernel) rfl rfl (fun p e s m args below meth c C hml hr hlk hnm => ?_)
  replace C : jv_C p s m args c cX8_solverAt RX8 s0 b0 D ids := C
  show jv_V p l e (jv_rm 6 137 0 0) s m args below meth c 0 0 (jv_ZM below s0 D ids ex jv_SH (jv_qi Q) args s 0 0) s0 D ids ex jv_SH g 0 [some (.ref (s0.heap.size + (0 : Int).toNat)), some (jv_i a1), none] []
  unfold wp_X8_solverAt at h
  refine jv_const C dX8_solverAt_0 ?_
  refine jv_istore_n (ls' := [some (.ref (s0.heap.size + (0 : Int).toNat)), some (jv_i a1), some (jv_i 0)]) C dX8_solverAt_1 (Nat.lt_of_lt_of_eq (Nat.le_of_ble_eq_true rfl) hml) rfl ?_
  refine jv_less (ls' := [some (.ref (s0.heap.size + (0 : Int).toNat)), some (jv_i a1), some (jv_i 0)]) ⟨rfl, ⟨rfl, ⟨rfl, trivial⟩⟩⟩ ?_
  refine jv_lp1.use h (fun (x2_2 : Int) (gl_2 : jv_Mem) => jv_V p l e (jv_rm 6 137 0 0) s m args below meth c 0 0 (jv_ZM below s0 D ids ex jv_SH (jv_qi Q) args s 0 0) s0 D ids ex jv_SH gl_2 2 [some (.ref (s0.heap.size + (0 : Int).toNat)), some (jv_i a1), some (jv_i x2_2)] []) ?_
  intro K2 hK2 x2_2 gl_2 h
  refine jv_iload_n C dX8_solverAt_2 rfl ?_
  refine jv_aload_n C dX8_solverAt_3 rfl ?_
  refine jv_geti C kf_X8_228 sS_0 rfl dX8_solverAt_4 ?_
  obtain ⟨hr_7, h1_7, h2_7⟩ := h
  refine jv_icmp_ge (tgt := 27) C hr_7.1 hr_7.2 dX8_solverAt_7 rfl (fun hc_7 => ?_) (fun hc_7 => ?_)
  · replace h := h1_7 hc_7
    refine jv_const C dX8_solverAt_27 ?_
    exact jv_iret C hr hlk ⟨_, rfl, h⟩ dX8_solverAt_28 ⟨rfl, rfl⟩
  · replace h := h2_7 hc_7
    refine jv_aload_n C dX8_solverAt_10 rfl ?_
    refine jv_iload_n C dX8_solverAt_11 rfl ?_
    refine jv_callVi C (M_X8_rank h) kw_X8_315 sS_0 rfl rfl ⟨rfl, rfl⟩ (st := []) rfl rfl ⟨rfl, rfl⟩ dX8_solverAt_12 (fun r_12 g_12 h => ?_)
    refine jv_iload_n C dX8_solverAt_15 rfl ?_
    obtain ⟨hr_16, h1_16, h2_16⟩ := h
    refine jv_icmp_ne (tgt := 21) C hr_16.1 hr_16.2 dX8_solverAt_16 rfl (fun hc_16 => ?_) (fun hc_16 => ?_)
    · replace h := h1_16 hc_16
      refine jv_iincn C dX8_solverAt_21 (Nat.lt_of_lt_of_eq (Nat.le_of_ble_eq_true rfl) hml) rfl (fun v2_21 ev2_21 => ?_)
      replace h := h v2_21 ev2_21
      refine jv_lset (ls' := [some (.ref (s0.heap.size + (0 : Int).toNat)), some (jv_i a1), some (jv_i v2_21)]) rfl ?_
      refine jv_goto (tgt := 2) C dX8_solverAt_24 rfl ?_
      exact jv_less (ls' := [some (.ref (s0.heap.size + (0 : Int).toNat)), some (jv_i a1), some (jv_i v2_21)]) ⟨rfl, ⟨rfl, ⟨rfl, trivial⟩⟩⟩ (hK2 _ _ h)
    · replace h := h2_16 hc_16
      refine jv_iload_n C dX8_solverAt_19 rfl ?_
      exact jv_iret C hr hlk ⟨_, rfl, h⟩ dX8_solverAt_20 ⟨rfl, rfl⟩

