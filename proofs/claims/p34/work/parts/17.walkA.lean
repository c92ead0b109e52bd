def wp_X0_count (Q : Int → jv_Mem → Prop) (g : jv_Mem) : Prop :=
  Q (g 14 4) g
set_option maxHeartbeats 4000000 in
set_option maxRecDepth 100000 in
theorem M_X0_count {l : Launch} {s0 : State} {b0 : Addr} {D : va_G} {ids : Nat → ClassId} {ex : Option Nat} {g : jv_Mem} {Q : Int → jv_Mem → Prop} (h : wp_X0_count Q g) : jv_M l s0 b0 D ids yX0_count cX0_count 1 (some .int) 0 0 0 0 ex jv_SH g [.ref (s0.heap.size + (14 : Int).toNat)] ex jv_SH (jv_qi Q) := by
  refine jv_M.of (by decide +kernel) rfl rfl (fun p e s m args below meth c C hml hr hlk hnm => ?_)
  replace C : jv_C p s m args c cX0_count RX0 s0 b0 D ids := C
  show jv_V p l e (jv_rm 0 0 0 0) s m args below meth c 0 0 (jv_ZM below s0 D ids ex jv_SH (jv_qi Q) args s 0 0) s0 D ids ex jv_SH g 0 [some (.ref (s0.heap.size + (14 : Int).toNat))] []
  unfold wp_X0_count at h
  refine jv_aload_n C dX0_count_0 rfl ?_
  refine jv_geti C kf_X0_24 sS_14 rfl dX0_count_1 ?_
  exact jv_iret C hr hlk ⟨_, rfl, h⟩ dX0_count_4 ⟨rfl, rfl⟩

def wp_X0_add (a1 : Int) (Q : Int → jv_Mem → Prop) (g : jv_Mem) : Prop :=
  (((0 : Int) ≤ g 14 4 ∧ g 14 4 < (60 : Int)) ∧ (∀ g_9 : jv_Mem, g_9 = jv_up g 15 (g 14 4) a1 → (((0 : Int) ≤ g_9 14 4 ∧ g_9 14 4 < (60 : Int)) ∧ (∀ g_19 : jv_Mem, g_19 = jv_up g_9 17 (g_9 14 4) ((-1)) → (∀ g_27 : jv_Mem, g_27 = jv_up g_19 14 4 ((g_19 14 4) + 1) → Q ((g_27 14 4) - 1) g_27)))))
set_option maxHeartbeats 4000000 in
set_option maxRecDepth 100000 in
theorem M_X0_add {l : Launch} {s0 : State} {b0 : Addr} {D : va_G} {ids : Nat → ClassId} {ex : Option Nat} {g : jv_Mem} {a1 : Int} {Q : Int → jv_Mem → Prop} (h : wp_X0_add a1 Q g) : jv_M l s0 b0 D ids yX0_add cX0_add 2 (some .int) 0 0 0 0 ex jv_SH g [.ref (s0.heap.size + (14 : Int).toNat), jv_i a1] ex jv_SH (jv_qi Q) := by
  refine jv_M.of (by decide +kernel) rfl rfl (fun p e s m args below meth c C hml hr hlk hnm => ?_)
  replace C : jv_C p s m args c cX0_add RX0 s0 b0 D ids := C
  show jv_V p l e (jv_rm 0 0 0 0) s m args below meth c 0 0 (jv_ZM below s0 D ids ex jv_SH (jv_qi Q) args s 0 0) s0 D ids ex jv_SH g 0 [some (.ref (s0.heap.size + (14 : Int).toNat)), some (jv_i a1)] []
  unfold wp_X0_add at h
  refine jv_aload_n C dX0_add_0 rfl ?_
  refine jv_getr C kf_X0_9 sS_14 rfl dX0_add_1 ?_
  refine jv_aload_n C dX0_add_4 rfl ?_
  refine jv_geti C kf_X0_24 sS_14 rfl dX0_add_5 ?_
  refine jv_iload_n C dX0_add_8 rfl ?_
  obtain ⟨hb_9, h⟩ := h
  refine jv_iast C sS_15 rfl hb_9 dX0_add_9 (jv_gm (fun g_9 eg_9 => ?_))
  replace h := h g_9 eg_9
  refine jv_aload_n C dX0_add_10 rfl ?_
  refine jv_getr C kf_X0_18 sS_14 rfl dX0_add_11 ?_
  refine jv_aload_n C dX0_add_14 rfl ?_
  refine jv_geti C kf_X0_24 sS_14 rfl dX0_add_15 ?_
  refine jv_const C dX0_add_18 ?_
  obtain ⟨hb_19, h⟩ := h
  refine jv_iast C sS_17 rfl hb_19 dX0_add_19 (jv_gm (fun g_19 eg_19 => ?_))
  replace h := h g_19 eg_19
  refine jv_aload_n C dX0_add_20 rfl ?_
  refine jv_dup C rfl dX0_add_21 ?_
  refine jv_geti C kf_X0_24 sS_14 rfl dX0_add_22 ?_
  refine jv_const C dX0_add_25 ?_
  refine jv_iadd C dX0_add_26 ?_
  refine jv_puti C kf_X0_24 sS_14 rfl dX0_add_27 (jv_gm (fun g_27 eg_27 => ?_))
  replace h := h g_27 eg_27
  refine jv_aload_n C dX0_add_30 rfl ?_
  refine jv_geti C kf_X0_24 sS_14 rfl dX0_add_31 ?_
  refine jv_const C dX0_add_34 ?_
  refine jv_isub C dX0_add_35 ?_
  exact jv_iret C hr hlk ⟨_, rfl, h⟩ dX0_add_36 ⟨rfl, rfl⟩

def wp_X0_isReady (a1 : Int) (Q : Int → jv_Mem → Prop) (g : jv_Mem) : Prop :=
  (((0 : Int) ≤ a1 ∧ a1 < (60 : Int)) ∧ ((jv_r (g 16 a1)) ∧ ((g 16 a1) < 2 → Q 0 g) ∧ (2 ≤ (g 16 a1) → Q 1 g)))
set_option maxHeartbeats 4000000 in
set_option maxRecDepth 100000 in
theorem M_X0_isReady {l : Launch} {s0 : State} {b0 : Addr} {D : va_G} {ids : Nat → ClassId} {ex : Option Nat} {g : jv_Mem} {a1 : Int} {Q : Int → jv_Mem → Prop} (h : wp_X0_isReady a1 Q g) : jv_M l s0 b0 D ids yX0_isReady cX0_isReady 2 (some .boolean) 0 0 0 0 ex jv_SH g [.ref (s0.heap.size + (14 : Int).toNat), jv_i a1] ex jv_SH (jv_qi Q) := by
  refine jv_M.of (by decide +kernel) rfl rfl (fun p e s m args below meth c C hml hr hlk hnm => ?_)
  replace C : jv_C p s m args c cX0_isReady RX0 s0 b0 D ids := C
  show jv_V p l e (jv_rm 0 0 0 0) s m args below meth c 0 0 (jv_ZM below s0 D ids ex jv_SH (jv_qi Q) args s 0 0) s0 D ids ex jv_SH g 0 [some (.ref (s0.heap.size + (14 : Int).toNat)), some (jv_i a1)] []
  unfold wp_X0_isReady at h
  refine jv_aload_n C dX0_isReady_0 rfl ?_
  refine jv_getr C kf_X0_15 sS_14 rfl dX0_isReady_1 ?_
  refine jv_iload_n C dX0_isReady_4 rfl ?_
  obtain ⟨hb_5, h⟩ := h
  refine jv_iald C sS_16 rfl hb_5 dX0_isReady_5 ?_
  refine jv_const C dX0_isReady_6 ?_
  obtain ⟨hr_7, h1_7, h2_7⟩ := h
  refine jv_icmp_lt (tgt := 14) C hr_7 ⟨by decide, by decide⟩ dX0_isReady_7 rfl (fun hc_7 => ?_) (fun hc_7 => ?_)
  · replace h := h1_7 hc_7
    refine jv_const C dX0_isReady_14 ?_
    exact jv_zret C hr hlk rfl ⟨_, rfl, h⟩ dX0_isReady_15 ⟨rfl, rfl⟩
  · replace h := h2_7 hc_7
    refine jv_const C dX0_isReady_10 ?_
    refine jv_goto (tgt := 15) C dX0_isReady_11 rfl ?_
    exact jv_zret C hr hlk rfl ⟨_, rfl, h⟩ dX0_isReady_15 ⟨rfl, rfl⟩

def wB_X0_look_21 (a1 : Int) (Q : Int → jv_Mem → Prop) (y0_21 : Int) (gj_21 : jv_Mem) : Prop :=
  (((0 : Int) ≤ a1 ∧ a1 < (60 : Int)) ∧ (∀ g_21 : jv_Mem, g_21 = jv_up gj_21 16 a1 y0_21 → (((0 : Int) ≤ a1 ∧ a1 < (60 : Int)) ∧ Q (g_21 16 a1) g_21)))
def wp_X0_look (a1 : Int) (a2 : Int) (Q : Int → jv_Mem → Prop) (g : jv_Mem) : Prop :=
  ((jv_r a2) ∧ (a2 = 0 → wB_X0_look_21 a1 Q 0 g) ∧ (¬ a2 = 0 → (((0 : Int) ≤ a1 ∧ a1 < (60 : Int)) ∧ wB_X0_look_21 a1 Q ((g 16 a1) + 1) g)))
set_option maxHeartbeats 4000000 in
set_option maxRecDepth 100000 in
theorem M_X0_look {l : Launch} {s0 : State} {b0 : Addr} {D : va_G} {ids : Nat → ClassId} {ex : Option Nat} {g : jv_Mem} {a1 : Int} {a2 : Int} {Q : Int → jv_Mem → Prop} (h : wp_X0_look a1 a2 Q g) : jv_M l s0 b0 D ids yX0_look cX0_look 3 (some .int) 0 0 0 0 ex jv_SH g [.ref (s0.heap.size + (14 : Int).toNat), jv_i a1, jv_i a2] ex jv_SH (jv_qi Q) := by
  refine jv_M.of (by decide +kernel) rfl rfl (fun p e s m args below meth c C hml hr hlk hnm => ?_)
  replace C : jv_C p s m args c cX0_look RX0 s0 b0 D ids := C
  show jv_V p l e (jv_rm 0 0 0 0) s m args below meth c 0 0 (jv_ZM below s0 D ids ex jv_SH (jv_qi Q) args s 0 0) s0 D ids ex jv_SH g 0 [some (.ref (s0.heap.size + (14 : Int).toNat)), some (jv_i a1), some (jv_i a2)] []
  unfold wp_X0_look at h
  refine jv_aload_n C dX0_look_0 rfl ?_
  refine jv_getr C kf_X0_15 sS_14 rfl dX0_look_1 ?_
  refine jv_iload_n C dX0_look_4 rfl ?_
  refine jv_iload_n C dX0_look_5 rfl ?_
  have hJ21 : ∀ (y0_21 : Int) (gj_21 : jv_Mem), wB_X0_look_21 a1 Q y0_21 gj_21 → jv_V p l e (jv_rm 0 0 0 0) s m args below meth c 0 0 (jv_ZM below s0 D ids ex jv_SH (jv_qi Q) args s 0 0) s0 D ids ex jv_SH gj_21 21 [some (.ref (s0.heap.size + (14 : Int).toNat)), some (jv_i a1), none] [jv_i y0_21, jv_i a1, .ref (s0.heap.size + (16 : Int).toNat)] := by
    intro y0_21 gj_21 h
    unfold wB_X0_look_21 at h
    obtain ⟨hb_21, h⟩ := h
    refine jv_iast C sS_16 rfl hb_21 dX0_look_21 (jv_gm (fun g_21 eg_21 => ?_))
    replace h := h g_21 eg_21
    refine jv_aload_n C dX0_look_22 rfl ?_
    refine jv_getr C kf_X0_15 sS_14 rfl dX0_look_23 ?_
    refine jv_iload_n C dX0_look_26 rfl ?_
    obtain ⟨hb_27, h⟩ := h
    refine jv_iald C sS_16 rfl hb_27 dX0_look_27 ?_
    exact jv_iret C hr hlk ⟨_, rfl, h⟩ dX0_look_28 ⟨rfl, rfl⟩
  obtain ⟨hr_6, h1_6, h2_6⟩ := h
  refine jv_if_eq (tgt := 20) C hr_6 dX0_look_6 rfl (fun hc_6 => ?_) (fun hc_6 => ?_)
  · replace h := h1_6 hc_6
    refine jv_const C dX0_look_20 ?_
    exact jv_less (ls' := [some (.ref (s0.heap.size + (14 : Int).toNat)), some (jv_i a1), none]) ⟨rfl, ⟨rfl, trivial⟩⟩ (hJ21 _ _ h)
  · replace h := h2_6 hc_6
    refine jv_aload_n C dX0_look_9 rfl ?_
    refine jv_getr C kf_X0_15 sS_14 rfl dX0_look_10 ?_
    refine jv_iload_n C dX0_look_13 rfl ?_
    obtain ⟨hb_14, h⟩ := h
    refine jv_iald C sS_16 rfl hb_14 dX0_look_14 ?_
    refine jv_const C dX0_look_15 ?_
    refine jv_iadd C dX0_look_16 ?_
    refine jv_goto (tgt := 21) C dX0_look_17 rfl ?_
    exact jv_less (ls' := [some (.ref (s0.heap.size + (14 : Int).toNat)), some (jv_i a1), none]) ⟨rfl, ⟨rfl, trivial⟩⟩ (hJ21 _ _ h)

def wp_X0_lastDay (a1 : Int) (Q : Int → jv_Mem → Prop) (g : jv_Mem) : Prop :=
  (((0 : Int) ≤ a1 ∧ a1 < (60 : Int)) ∧ Q (g 17 a1) g)
set_option maxHeartbeats 4000000 in
set_option maxRecDepth 100000 in
theorem M_X0_lastDay {l : Launch} {s0 : State} {b0 : Addr} {D : va_G} {ids : Nat → ClassId} {ex : Option Nat} {g : jv_Mem} {a1 : Int} {Q : Int → jv_Mem → Prop} (h : wp_X0_lastDay a1 Q g) : jv_M l s0 b0 D ids yX0_lastDay cX0_lastDay 2 (some .int) 0 0 0 0 ex jv_SH g [.ref (s0.heap.size + (14 : Int).toNat), jv_i a1] ex jv_SH (jv_qi Q) := by
  refine jv_M.of (by decide +kernel) rfl rfl (fun p e s m args below meth c C hml hr hlk hnm => ?_)
  replace C : jv_C p s m args c cX0_lastDay RX0 s0 b0 D ids := C
  show jv_V p l e (jv_rm 0 0 0 0) s m args below meth c 0 0 (jv_ZM below s0 D ids ex jv_SH (jv_qi Q) args s 0 0) s0 D ids ex jv_SH g 0 [some (.ref (s0.heap.size + (14 : Int).toNat)), some (jv_i a1)] []
  unfold wp_X0_lastDay at h
  refine jv_aload_n C dX0_lastDay_0 rfl ?_
  refine jv_getr C kf_X0_18 sS_14 rfl dX0_lastDay_1 ?_
  refine jv_iload_n C dX0_lastDay_4 rfl ?_
  obtain ⟨hb_5, h⟩ := h
  refine jv_iald C sS_17 rfl hb_5 dX0_lastDay_5 ?_
  exact jv_iret C hr hlk ⟨_, rfl, h⟩ dX0_lastDay_6 ⟨rfl, rfl⟩

def wp_X0_chosen (a1 : Int) (Q : Int → jv_Mem → Prop) (g : jv_Mem) : Prop :=
  (((0 : Int) ≤ a1 ∧ a1 < (6 : Int)) ∧ Q (g 18 a1) g)
set_option maxHeartbeats 4000000 in
set_option maxRecDepth 100000 in
theorem M_X0_chosen {l : Launch} {s0 : State} {b0 : Addr} {D : va_G} {ids : Nat → ClassId} {ex : Option Nat} {g : jv_Mem} {a1 : Int} {Q : Int → jv_Mem → Prop} (h : wp_X0_chosen a1 Q g) : jv_M l s0 b0 D ids yX0_chosen cX0_chosen 2 (some .int) 0 0 0 0 ex jv_SH g [.ref (s0.heap.size + (14 : Int).toNat), jv_i a1] ex jv_SH (jv_qi Q) := by
  refine jv_M.of (by decide +kernel) rfl rfl (fun p e s m args below meth c C hml hr hlk hnm => ?_)
  replace C : jv_C p s m args c cX0_chosen RX0 s0 b0 D ids := C
  show jv_V p l e (jv_rm 0 0 0 0) s m args below meth c 0 0 (jv_ZM below s0 D ids ex jv_SH (jv_qi Q) args s 0 0) s0 D ids ex jv_SH g 0 [some (.ref (s0.heap.size + (14 : Int).toNat)), some (jv_i a1)] []
  unfold wp_X0_chosen at h
  refine jv_aload_n C dX0_chosen_0 rfl ?_
  refine jv_getr C kf_X0_21 sS_14 rfl dX0_chosen_1 ?_
  refine jv_iload_n C dX0_chosen_4 rfl ?_
  obtain ⟨hb_5, h⟩ := h
  refine jv_iald C sS_18 rfl hb_5 dX0_chosen_5 ?_
  exact jv_iret C hr hlk ⟨_, rfl, h⟩ dX0_chosen_6 ⟨rfl, rfl⟩

def wB_X0_canBeUsed_34 (Q : Int → jv_Mem → Prop) (gj_34 : jv_Mem) : Prop :=
  Q 1 gj_34
def wp_X0_canBeUsed (a1 : Int) (a2 : Int) (Q : Int → jv_Mem → Prop) (g : jv_Mem) : Prop :=
  (wp_X0_isReady a1 (fun (r_2 : Int) (g_2 : jv_Mem) => ((jv_r r_2) ∧ (¬ r_2 = 0 → (((0 : Int) ≤ a1 ∧ a1 < (60 : Int)) ∧ ((jv_r (g_2 17 a1)) ∧ ((g_2 17 a1) = ((-1)) → wB_X0_canBeUsed_34 Q g_2) ∧ (¬ (g_2 17 a1) = ((-1)) → (((0 : Int) ≤ a1 ∧ a1 < (60 : Int)) ∧ ((jv_r (a2 - (g_2 17 a1))) ∧ ((a2 - (g_2 17 a1)) ≤ 364 → Q 0 g_2) ∧ (364 < (a2 - (g_2 17 a1)) → wB_X0_canBeUsed_34 Q g_2))))))) ∧ (r_2 = 0 → Q 0 g_2))) g)
set_option maxHeartbeats 4000000 in
set_option maxRecDepth 100000 in
theorem M_X0_canBeUsed {l : Launch} {s0 : State} {b0 : Addr} {D : va_G} {ids : Nat → ClassId} {ex : Option Nat} {g : jv_Mem} {a1 : Int} {a2 : Int} {Q : Int → jv_Mem → Prop} (h : wp_X0_canBeUsed a1 a2 Q g) : jv_M l s0 b0 D ids yX0_canBeUsed cX0_canBeUsed 3 (some .boolean) 1 21 0 0 ex jv_SH g [.ref (s0.heap.size + (14 : Int).toNat), jv_i a1, jv_i a2] ex jv_SH (jv_qi Q) := by
  refine jv_M.of (by decide +kernel) rfl rfl (fun p e s m args below meth c C hml hr hlk hnm => ?_)
  replace C : jv_C p s m args c cX0_canBeUsed RX0 s0 b0 D ids := C
  show jv_V p l e (jv_rm 1 21 0 0) s m args below meth c 0 0 (jv_ZM below s0 D ids ex jv_SH (jv_qi Q) args s 0 0) s0 D ids ex jv_SH g 0 [some (.ref (s0.heap.size + (14 : Int).toNat)), some (jv_i a1), some (jv_i a2)] []
  unfold wp_X0_canBeUsed at h
  refine jv_aload_n C dX0_canBeUsed_0 rfl ?_
  refine jv_iload_n C dX0_canBeUsed_1 rfl ?_
  refine jv_callVi C (M_X0_isReady h) kw_X0_35 sS_14 rfl rfl ⟨rfl, rfl⟩ (st := []) rfl rfl ⟨rfl, rfl⟩ dX0_canBeUsed_2 (fun r_2 g_2 h => ?_)
  obtain ⟨hr_5, h1_5, h2_5⟩ := h
  refine jv_if_ne (tgt := 10) C hr_5 dX0_canBeUsed_5 rfl (fun hc_5 => ?_) (fun hc_5 => ?_)
  · replace h := h1_5 hc_5
    refine jv_aload_n C dX0_canBeUsed_10 rfl ?_
    refine jv_getr C kf_X0_18 sS_14 rfl dX0_canBeUsed_11 ?_
    refine jv_iload_n C dX0_canBeUsed_14 rfl ?_
    obtain ⟨hb_15, h⟩ := h
    refine jv_iald C sS_17 rfl hb_15 dX0_canBeUsed_15 ?_
    refine jv_const C dX0_canBeUsed_16 ?_
    have hJ34 : ∀ (gj_34 : jv_Mem), wB_X0_canBeUsed_34 Q gj_34 → jv_V p l e (jv_rm 1 21 0 0) s m args below meth c 0 0 (jv_ZM below s0 D ids ex jv_SH (jv_qi Q) args s 0 0) s0 D ids ex jv_SH gj_34 34 [none, none, none] [] := by
      intro gj_34 h
      unfold wB_X0_canBeUsed_34 at h
      refine jv_const C dX0_canBeUsed_34 ?_
      refine jv_goto (tgt := 39) C dX0_canBeUsed_35 rfl ?_
      exact jv_zret C hr hlk rfl ⟨_, rfl, h⟩ dX0_canBeUsed_39 ⟨rfl, rfl⟩
    obtain ⟨hr_17, h1_17, h2_17⟩ := h
    refine jv_icmp_eq (tgt := 34) C hr_17 ⟨by decide, by decide⟩ dX0_canBeUsed_17 rfl (fun hc_17 => ?_) (fun hc_17 => ?_)
    · replace h := h1_17 hc_17
      exact jv_less (ls' := [none, none, none]) trivial (hJ34 _ h)
    · replace h := h2_17 hc_17
      refine jv_iload_n C dX0_canBeUsed_20 rfl ?_
      refine jv_aload_n C dX0_canBeUsed_21 rfl ?_
      refine jv_getr C kf_X0_18 sS_14 rfl dX0_canBeUsed_22 ?_
      refine jv_iload_n C dX0_canBeUsed_25 rfl ?_
      obtain ⟨hb_26, h⟩ := h
      refine jv_iald C sS_17 rfl hb_26 dX0_canBeUsed_26 ?_
      refine jv_isub C dX0_canBeUsed_27 ?_
      refine jv_sipush C dX0_canBeUsed_28 (by decide +kernel) ?_
      obtain ⟨hr_31, h1_31, h2_31⟩ := h
      refine jv_icmp_le (tgt := 38) C hr_31 ⟨by decide, by decide⟩ dX0_canBeUsed_31 rfl (fun hc_31 => ?_) (fun hc_31 => ?_)
      · replace h := h1_31 hc_31
        refine jv_const C dX0_canBeUsed_38 ?_
        exact jv_zret C hr hlk rfl ⟨_, rfl, h⟩ dX0_canBeUsed_39 ⟨rfl, rfl⟩
      · replace h := h2_31 hc_31
        exact jv_less (ls' := [none, none, none]) trivial (hJ34 _ h)
  · replace h := h2_5 hc_5
    refine jv_const C dX0_canBeUsed_8 ?_
    exact jv_zret C hr hlk rfl ⟨_, rfl, h⟩ dX0_canBeUsed_9 ⟨rfl, rfl⟩

def wp_X0_isChosenAhead (a1 : Int) (a2 : Int) (Q : Int → jv_Mem → Prop) (g : jv_Mem) : Prop :=
  jv_lp1 (fun (K2 : Int → jv_Mem → Prop) (x3_2 : Int) (gl_2 : jv_Mem) => ((jv_r x3_2 ∧ jv_r a2) ∧ (a2 ≤ x3_2 → Q 0 gl_2) ∧ (x3_2 < a2 → (((0 : Int) ≤ x3_2 ∧ x3_2 < (6 : Int)) ∧ ((jv_r (gl_2 18 x3_2) ∧ jv_r a1) ∧ (¬ (gl_2 18 x3_2) = a1 → (∀ v3_19 : Int, v3_19 = x3_2 + 1 → K2 v3_19 gl_2)) ∧ ((gl_2 18 x3_2) = a1 → Q 1 gl_2)))))) 0 g
set_option maxHeartbeats 4000000 in
set_option maxRecDepth 100000 in
theorem M_X0_isChosenAhead {l : Launch} {s0 : State} {b0 : Addr} {D : va_G} {ids : Nat → ClassId} {ex : Option Nat} {g : jv_Mem} {a1 : Int} {a2 : Int} {Q : Int → jv_Mem → Prop} (h : wp_X0_isChosenAhead a1 a2 Q g) : jv_M l s0 b0 D ids yX0_isChosenAhead cX0_isChosenAhead 4 (some .boolean) 0 0 0 0 ex jv_SH g [.ref (s0.heap.size + (14 : Int).toNat), jv_i a1, jv_i a2] ex jv_SH (jv_qi Q) := by
  refine jv_M.of (by decide +kernel) rfl rfl (fun p e s m args below meth c C hml hr hlk hnm => ?_)
  replace C : jv_C p s m args c cX0_isChosenAhead RX0 s0 b0 D ids := C
  show jv_V p l e (jv_rm 0 0 0 0) s m args below meth c 0 0 (jv_ZM below s0 D ids ex jv_SH (jv_qi Q) args s 0 0) s0 D ids ex jv_SH g 0 [some (.ref (s0.heap.size + (14 : Int).toNat)), some (jv_i a1), some (jv_i a2), none] []
  unfold wp_X0_isChosenAhead at h
  refine jv_const C dX0_isChosenAhead_0 ?_
  refine jv_istore_n (ls' := [some (.ref (s0.heap.size + (14 : Int).toNat)), some (jv_i a1), some (jv_i a2), some (jv_i 0)]) C dX0_isChosenAhead_1 (Nat.lt_of_lt_of_eq (Nat.le_of_ble_eq_true rfl) hml) rfl ?_
  refine jv_less (ls' := [some (.ref (s0.heap.size + (14 : Int).toNat)), some (jv_i a1), some (jv_i a2), some (jv_i 0)]) ⟨rfl, ⟨rfl, ⟨rfl, ⟨rfl, trivial⟩⟩⟩⟩ ?_
  refine jv_lp1.use h (fun (x3_2 : Int) (gl_2 : jv_Mem) => jv_V p l e (jv_rm 0 0 0 0) s m args below meth c 0 0 (jv_ZM below s0 D ids ex jv_SH (jv_qi Q) args s 0 0) s0 D ids ex jv_SH gl_2 2 [some (.ref (s0.heap.size + (14 : Int).toNat)), some (jv_i a1), some (jv_i a2), some (jv_i x3_2)] []) ?_
  intro K2 hK2 x3_2 gl_2 h
  refine jv_iload_n C dX0_isChosenAhead_2 rfl ?_
  refine jv_iload_n C dX0_isChosenAhead_3 rfl ?_
  obtain ⟨hr_4, h1_4, h2_4⟩ := h
  refine jv_icmp_ge (tgt := 25) C hr_4.1 hr_4.2 dX0_isChosenAhead_4 rfl (fun hc_4 => ?_) (fun hc_4 => ?_)
  · replace h := h1_4 hc_4
    refine jv_const C dX0_isChosenAhead_25 ?_
    exact jv_zret C hr hlk rfl ⟨_, rfl, h⟩ dX0_isChosenAhead_26 ⟨rfl, rfl⟩
  · replace h := h2_4 hc_4
    refine jv_aload_n C dX0_isChosenAhead_7 rfl ?_
    refine jv_getr C kf_X0_21 sS_14 rfl dX0_isChosenAhead_8 ?_
    refine jv_iload_n C dX0_isChosenAhead_11 rfl ?_
    obtain ⟨hb_12, h⟩ := h
    refine jv_iald C sS_18 rfl hb_12 dX0_isChosenAhead_12 ?_
    refine jv_iload_n C dX0_isChosenAhead_13 rfl ?_
    obtain ⟨hr_14, h1_14, h2_14⟩ := h
    refine jv_icmp_ne (tgt := 19) C hr_14.1 hr_14.2 dX0_isChosenAhead_14 rfl (fun hc_14 => ?_) (fun hc_14 => ?_)
    · replace h := h1_14 hc_14
      refine jv_iincn C dX0_isChosenAhead_19 (Nat.lt_of_lt_of_eq (Nat.le_of_ble_eq_true rfl) hml) rfl (fun v3_19 ev3_19 => ?_)
      replace h := h v3_19 ev3_19
      refine jv_lset (ls' := [some (.ref (s0.heap.size + (14 : Int).toNat)), some (jv_i a1), some (jv_i a2), some (jv_i v3_19)]) rfl ?_
      refine jv_goto (tgt := 2) C dX0_isChosenAhead_22 rfl ?_
      exact jv_less (ls' := [some (.ref (s0.heap.size + (14 : Int).toNat)), some (jv_i a1), some (jv_i a2), some (jv_i v3_19)]) ⟨rfl, ⟨rfl, ⟨rfl, ⟨rfl, trivial⟩⟩⟩⟩ (hK2 _ _ h)
    · replace h := h2_14 hc_14
      refine jv_const C dX0_isChosenAhead_17 ?_
      exact jv_zret C hr hlk rfl ⟨_, rfl, h⟩ dX0_isChosenAhead_18 ⟨rfl, rfl⟩

def wB_X0_choose_85 (K6 : Int → Int → jv_Mem → Prop) (x5_6 : Int) (x4_85 : Int) (gj_85 : jv_Mem) : Prop :=
  (∀ v5_85 : Int, v5_85 = x5_6 + 1 → K6 x4_85 v5_85 gj_85)
def wB_X0_choose_81 (K6 : Int → Int → jv_Mem → Prop) (x5_6 : Int) (gj_81 : jv_Mem) : Prop :=
  wB_X0_choose_85 K6 x5_6 x5_6 gj_81
def wB_X0_choose_51 (K6 : Int → Int → jv_Mem → Prop) (x4_6 : Int) (x5_6 : Int) (y0_51 : Int) (gj_51 : jv_Mem) : Prop :=
  ((jv_r y0_51) ∧ (y0_51 = 0 → wB_X0_choose_85 K6 x5_6 x4_6 gj_51) ∧ (¬ y0_51 = 0 → ((jv_r x4_6) ∧ (x4_6 = ((-1)) → wB_X0_choose_81 K6 x5_6 gj_51) ∧ (¬ x4_6 = ((-1)) → (((0 : Int) ≤ x5_6 ∧ x5_6 < (60 : Int)) ∧ (((0 : Int) ≤ x4_6 ∧ x4_6 < (60 : Int)) ∧ ((jv_r (gj_51 17 x5_6) ∧ jv_r (gj_51 17 x4_6)) ∧ ((gj_51 17 x4_6) ≤ (gj_51 17 x5_6) → wB_X0_choose_85 K6 x5_6 x4_6 gj_51) ∧ ((gj_51 17 x5_6) < (gj_51 17 x4_6) → wB_X0_choose_81 K6 x5_6 gj_51))))))))
def wB_X0_choose_50 (K6 : Int → Int → jv_Mem → Prop) (x4_6 : Int) (x5_6 : Int) (gj_50 : jv_Mem) : Prop :=
  wB_X0_choose_51 K6 x4_6 x5_6 0 gj_50
def wp_X0_choose (a1 : Int) (a2 : Int) (a3 : Int) (Q : Int → jv_Mem → Prop) (g : jv_Mem) : Prop :=
  jv_lp2 (fun (K6 : Int → Int → jv_Mem → Prop) (x4_6 x5_6 : Int) (gl_6 : jv_Mem) => ((jv_r x5_6 ∧ jv_r (gl_6 14 4)) ∧ ((gl_6 14 4) ≤ x5_6 → (((0 : Int) ≤ a1 ∧ a1 < (6 : Int)) ∧ (∀ g_98 : jv_Mem, g_98 = jv_up gl_6 18 a1 x4_6 → ((jv_r x4_6) ∧ (x4_6 = ((-1)) → Q 0 g_98) ∧ (¬ x4_6 = ((-1)) → Q 1 g_98))))) ∧ (x5_6 < (gl_6 14 4) → (((0 : Int) ≤ x5_6 ∧ x5_6 < (60 : Int)) ∧ ((jv_r (gl_6 15 x5_6) ∧ jv_r a2) ∧ (¬ (gl_6 15 x5_6) = a2 → wB_X0_choose_50 K6 x4_6 x5_6 gl_6) ∧ ((gl_6 15 x5_6) = a2 → (wp_X0_canBeUsed x5_6 a3 (fun (r_30 : Int) (g_30 : jv_Mem) => ((jv_r r_30) ∧ (r_30 = 0 → wB_X0_choose_50 K6 x4_6 x5_6 g_30) ∧ (¬ r_30 = 0 → (wp_X0_isChosenAhead x5_6 a1 (fun (r_40 : Int) (g_40 : jv_Mem) => ((jv_r r_40) ∧ (¬ r_40 = 0 → wB_X0_choose_50 K6 x4_6 x5_6 g_40) ∧ (r_40 = 0 → wB_X0_choose_51 K6 x4_6 x5_6 1 g_40))) g_30)))) gl_6))))))) ((-1)) 0 g
set_option maxHeartbeats 4000000 in
set_option maxRecDepth 100000 in
theorem M_X0_choose {l : Launch} {s0 : State} {b0 : Addr} {D : va_G} {ids : Nat → ClassId} {ex : Option Nat} {g : jv_Mem} {a1 : Int} {a2 : Int} {a3 : Int} {Q : Int → jv_Mem → Prop} (h : wp_X0_choose a1 a2 a3 Q g) : jv_M l s0 b0 D ids yX0_choose cX0_choose 7 (some .boolean) 2 43 0 0 ex jv_SH g [.ref (s0.heap.size + (14 : Int).toNat), jv_i a1, jv_i a2, jv_i a3] ex jv_SH (jv_qi Q) := by
  refine jv_M.of (by decide +kernel) rfl rfl (fun p e s m args below meth c C hml hr hlk hnm => ?_)
  replace C : jv_C p s m args c cX0_choose RX0 s0 b0 D ids := C
  show jv_V p l e (jv_rm 2 43 0 0) s m args below meth c 0 0 (jv_ZM below s0 D ids ex jv_SH (jv_qi Q) args s 0 0) s0 D ids ex jv_SH g 0 [some (.ref (s0.heap.size + (14 : Int).toNat)), some (jv_i a1), some (jv_i a2), some (jv_i a3), none, none, none] []
  unfold wp_X0_choose at h
  refine jv_const C dX0_choose_0 ?_
  refine jv_istore (ls' := [some (.ref (s0.heap.size + (14 : Int).toNat)), some (jv_i a1), some (jv_i a2), some (jv_i a3), some (jv_i ((-1))), none, none]) C dX0_choose_1 (Nat.lt_of_lt_of_eq (Nat.le_of_ble_eq_true rfl) hml) rfl ?_
  refine jv_const C dX0_choose_3 ?_
  refine jv_istore (ls' := [some (.ref (s0.heap.size + (14 : Int).toNat)), some (jv_i a1), some (jv_i a2), some (jv_i a3), some (jv_i ((-1))), some (jv_i 0), none]) C dX0_choose_4 (Nat.lt_of_lt_of_eq (Nat.le_of_ble_eq_true rfl) hml) rfl ?_
  refine jv_less (ls' := [some (.ref (s0.heap.size + (14 : Int).toNat)), some (jv_i a1), some (jv_i a2), some (jv_i a3), some (jv_i ((-1))), some (jv_i 0), none]) ⟨rfl, ⟨rfl, ⟨rfl, ⟨rfl, ⟨rfl, ⟨rfl, trivial⟩⟩⟩⟩⟩⟩ ?_
  refine jv_lp2.use h (fun (x4_6 x5_6 : Int) (gl_6 : jv_Mem) => jv_V p l e (jv_rm 2 43 0 0) s m args below meth c 0 0 (jv_ZM below s0 D ids ex jv_SH (jv_qi Q) args s 0 0) s0 D ids ex jv_SH gl_6 6 [some (.ref (s0.heap.size + (14 : Int).toNat)), some (jv_i a1), some (jv_i a2), some (jv_i a3), some (jv_i x4_6), some (jv_i x5_6), none] []) ?_
  intro K6 hK6 x4_6 x5_6 gl_6 h
  refine jv_iload C dX0_choose_6 rfl ?_
  refine jv_aload_n C dX0_choose_8 rfl ?_
  refine jv_geti C kf_X0_24 sS_14 rfl dX0_choose_9 ?_
  obtain ⟨hr_12, h1_12, h2_12⟩ := h
  refine jv_icmp_ge (tgt := 91) C hr_12.1 hr_12.2 dX0_choose_12 rfl (fun hc_12 => ?_) (fun hc_12 => ?_)
  · replace h := h1_12 hc_12
    refine jv_aload_n C dX0_choose_91 rfl ?_
    refine jv_getr C kf_X0_21 sS_14 rfl dX0_choose_92 ?_
    refine jv_iload_n C dX0_choose_95 rfl ?_
    refine jv_iload C dX0_choose_96 rfl ?_
    obtain ⟨hb_98, h⟩ := h
    refine jv_iast C sS_18 rfl hb_98 dX0_choose_98 (jv_gm (fun g_98 eg_98 => ?_))
    replace h := h g_98 eg_98
    refine jv_iload C dX0_choose_99 rfl ?_
    refine jv_const C dX0_choose_101 ?_
    obtain ⟨hr_102, h1_102, h2_102⟩ := h
    refine jv_icmp_eq (tgt := 109) C hr_102 ⟨by decide, by decide⟩ dX0_choose_102 rfl (fun hc_102 => ?_) (fun hc_102 => ?_)
    · replace h := h1_102 hc_102
      refine jv_const C dX0_choose_109 ?_
      exact jv_zret C hr hlk rfl ⟨_, rfl, h⟩ dX0_choose_110 ⟨rfl, rfl⟩
    · replace h := h2_102 hc_102
      refine jv_const C dX0_choose_105 ?_
      refine jv_goto (tgt := 110) C dX0_choose_106 rfl ?_
      exact jv_zret C hr hlk rfl ⟨_, rfl, h⟩ dX0_choose_110 ⟨rfl, rfl⟩
  · replace h := h2_12 hc_12
    refine jv_aload_n C dX0_choose_15 rfl ?_
    refine jv_getr C kf_X0_9 sS_14 rfl dX0_choose_16 ?_
    refine jv_iload C dX0_choose_19 rfl ?_
    obtain ⟨hb_21, h⟩ := h
    refine jv_iald C sS_15 rfl hb_21 dX0_choose_21 ?_
    refine jv_iload_n C dX0_choose_22 rfl ?_
    have hJ51 : ∀ (y0_51 : Int) (gj_51 : jv_Mem), wB_X0_choose_51 K6 x4_6 x5_6 y0_51 gj_51 → jv_V p l e (jv_rm 2 43 0 0) s m args below meth c 0 0 (jv_ZM below s0 D ids ex jv_SH (jv_qi Q) args s 0 0) s0 D ids ex jv_SH gj_51 51 [some (.ref (s0.heap.size + (14 : Int).toNat)), some (jv_i a1), some (jv_i a2), some (jv_i a3), some (jv_i x4_6), some (jv_i x5_6), none] [jv_i y0_51] := by
      intro y0_51 gj_51 h
      unfold wB_X0_choose_51 at h
      refine jv_istore (ls' := [some (.ref (s0.heap.size + (14 : Int).toNat)), some (jv_i a1), some (jv_i a2), some (jv_i a3), some (jv_i x4_6), some (jv_i x5_6), some (jv_i y0_51)]) C dX0_choose_51 (Nat.lt_of_lt_of_eq (Nat.le_of_ble_eq_true rfl) hml) rfl ?_
      refine jv_iload C dX0_choose_53 rfl ?_
      have hJ85 : ∀ (x4_85 : Int) (gj_85 : jv_Mem), wB_X0_choose_85 K6 x5_6 x4_85 gj_85 → jv_V p l e (jv_rm 2 43 0 0) s m args below meth c 0 0 (jv_ZM below s0 D ids ex jv_SH (jv_qi Q) args s 0 0) s0 D ids ex jv_SH gj_85 85 [some (.ref (s0.heap.size + (14 : Int).toNat)), some (jv_i a1), some (jv_i a2), some (jv_i a3), some (jv_i x4_85), some (jv_i x5_6), none] [] := by
        intro x4_85 gj_85 h
        unfold wB_X0_choose_85 at h
        refine jv_iincn C dX0_choose_85 (Nat.lt_of_lt_of_eq (Nat.le_of_ble_eq_true rfl) hml) rfl (fun v5_85 ev5_85 => ?_)
        replace h := h v5_85 ev5_85
        refine jv_lset (ls' := [some (.ref (s0.heap.size + (14 : Int).toNat)), some (jv_i a1), some (jv_i a2), some (jv_i a3), some (jv_i x4_85), some (jv_i v5_85), none]) rfl ?_
        refine jv_goto (tgt := 6) C dX0_choose_88 rfl ?_
        exact jv_less (ls' := [some (.ref (s0.heap.size + (14 : Int).toNat)), some (jv_i a1), some (jv_i a2), some (jv_i a3), some (jv_i x4_85), some (jv_i v5_85), none]) ⟨rfl, ⟨rfl, ⟨rfl, ⟨rfl, ⟨rfl, ⟨rfl, trivial⟩⟩⟩⟩⟩⟩ (hK6 _ _ _ h)
      obtain ⟨hr_55, h1_55, h2_55⟩ := h
      refine jv_if_eq (tgt := 85) C hr_55 dX0_choose_55 rfl (fun hc_55 => ?_) (fun hc_55 => ?_)
      · replace h := h1_55 hc_55
        exact jv_less (ls' := [some (.ref (s0.heap.size + (14 : Int).toNat)), some (jv_i a1), some (jv_i a2), some (jv_i a3), some (jv_i x4_6), some (jv_i x5_6), none]) ⟨rfl, ⟨rfl, ⟨rfl, ⟨rfl, ⟨rfl, ⟨rfl, trivial⟩⟩⟩⟩⟩⟩ (hJ85 _ _ h)
      · replace h := h2_55 hc_55
        refine jv_iload C dX0_choose_58 rfl ?_
        refine jv_const C dX0_choose_60 ?_
        have hJ81 : ∀ (gj_81 : jv_Mem), wB_X0_choose_81 K6 x5_6 gj_81 → jv_V p l e (jv_rm 2 43 0 0) s m args below meth c 0 0 (jv_ZM below s0 D ids ex jv_SH (jv_qi Q) args s 0 0) s0 D ids ex jv_SH gj_81 81 [some (.ref (s0.heap.size + (14 : Int).toNat)), some (jv_i a1), some (jv_i a2), some (jv_i a3), none, some (jv_i x5_6), none] [] := by
          intro gj_81 h
          unfold wB_X0_choose_81 at h
          refine jv_iload C dX0_choose_81 rfl ?_
          refine jv_istore (ls' := [some (.ref (s0.heap.size + (14 : Int).toNat)), some (jv_i a1), some (jv_i a2), some (jv_i a3), some (jv_i x5_6), some (jv_i x5_6), none]) C dX0_choose_83 (Nat.lt_of_lt_of_eq (Nat.le_of_ble_eq_true rfl) hml) rfl ?_
          exact jv_less (ls' := [some (.ref (s0.heap.size + (14 : Int).toNat)), some (jv_i a1), some (jv_i a2), some (jv_i a3), some (jv_i x5_6), some (jv_i x5_6), none]) ⟨rfl, ⟨rfl, ⟨rfl, ⟨rfl, ⟨rfl, ⟨rfl, trivial⟩⟩⟩⟩⟩⟩ (hJ85 _ _ h)
        obtain ⟨hr_61, h1_61, h2_61⟩ := h
        refine jv_icmp_eq (tgt := 81) C hr_61 ⟨by decide, by decide⟩ dX0_choose_61 rfl (fun hc_61 => ?_) (fun hc_61 => ?_)
        · replace h := h1_61 hc_61
          exact jv_less (ls' := [some (.ref (s0.heap.size + (14 : Int).toNat)), some (jv_i a1), some (jv_i a2), some (jv_i a3), none, some (jv_i x5_6), none]) ⟨rfl, ⟨rfl, ⟨rfl, ⟨rfl, ⟨rfl, trivial⟩⟩⟩⟩⟩ (hJ81 _ h)
        · replace h := h2_61 hc_61
          refine jv_aload_n C dX0_choose_64 rfl ?_
          refine jv_getr C kf_X0_18 sS_14 rfl dX0_choose_65 ?_
          refine jv_iload C dX0_choose_68 rfl ?_
          obtain ⟨hb_70, h⟩ := h
          refine jv_iald C sS_17 rfl hb_70 dX0_choose_70 ?_
          refine jv_aload_n C dX0_choose_71 rfl ?_
          refine jv_getr C kf_X0_18 sS_14 rfl dX0_choose_72 ?_
          refine jv_iload C dX0_choose_75 rfl ?_
          obtain ⟨hb_77, h⟩ := h
          refine jv_iald C sS_17 rfl hb_77 dX0_choose_77 ?_
          obtain ⟨hr_78, h1_78, h2_78⟩ := h
          refine jv_icmp_ge (tgt := 85) C hr_78.1 hr_78.2 dX0_choose_78 rfl (fun hc_78 => ?_) (fun hc_78 => ?_)
          · replace h := h1_78 hc_78
            exact jv_less (ls' := [some (.ref (s0.heap.size + (14 : Int).toNat)), some (jv_i a1), some (jv_i a2), some (jv_i a3), some (jv_i x4_6), some (jv_i x5_6), none]) ⟨rfl, ⟨rfl, ⟨rfl, ⟨rfl, ⟨rfl, ⟨rfl, trivial⟩⟩⟩⟩⟩⟩ (hJ85 _ _ h)
          · replace h := h2_78 hc_78
            exact jv_less (ls' := [some (.ref (s0.heap.size + (14 : Int).toNat)), some (jv_i a1), some (jv_i a2), some (jv_i a3), none, some (jv_i x5_6), none]) ⟨rfl, ⟨rfl, ⟨rfl, ⟨rfl, ⟨rfl, trivial⟩⟩⟩⟩⟩ (hJ81 _ h)
    have hJ50 : ∀ (gj_50 : jv_Mem), wB_X0_choose_50 K6 x4_6 x5_6 gj_50 → jv_V p l e (jv_rm 2 43 0 0) s m args below meth c 0 0 (jv_ZM below s0 D ids ex jv_SH (jv_qi Q) args s 0 0) s0 D ids ex jv_SH gj_50 50 [some (.ref (s0.heap.size + (14 : Int).toNat)), some (jv_i a1), some (jv_i a2), some (jv_i a3), some (jv_i x4_6), some (jv_i x5_6), none] [] := by
      intro gj_50 h
      unfold wB_X0_choose_50 at h
      refine jv_const C dX0_choose_50 ?_
      exact jv_less (ls' := [some (.ref (s0.heap.size + (14 : Int).toNat)), some (jv_i a1), some (jv_i a2), some (jv_i a3), some (jv_i x4_6), some (jv_i x5_6), none]) ⟨rfl, ⟨rfl, ⟨rfl, ⟨rfl, ⟨rfl, ⟨rfl, trivial⟩⟩⟩⟩⟩⟩ (hJ51 _ _ h)
    obtain ⟨hr_23, h1_23, h2_23⟩ := h
    refine jv_icmp_ne (tgt := 50) C hr_23.1 hr_23.2 dX0_choose_23 rfl (fun hc_23 => ?_) (fun hc_23 => ?_)
    · replace h := h1_23 hc_23
      exact jv_less (ls' := [some (.ref (s0.heap.size + (14 : Int).toNat)), some (jv_i a1), some (jv_i a2), some (jv_i a3), some (jv_i x4_6), some (jv_i x5_6), none]) ⟨rfl, ⟨rfl, ⟨rfl, ⟨rfl, ⟨rfl, ⟨rfl, trivial⟩⟩⟩⟩⟩⟩ (hJ50 _ h)
    · replace h := h2_23 hc_23
      refine jv_aload_n C dX0_choose_26 rfl ?_
      refine jv_iload C dX0_choose_27 rfl ?_
      refine jv_iload_n C dX0_choose_29 rfl ?_
      refine jv_callVi C (M_X0_canBeUsed h) kw_X0_28 sS_14 rfl rfl ⟨rfl, rfl⟩ (st := []) rfl rfl ⟨rfl, rfl⟩ dX0_choose_30 (fun r_30 g_30 h => ?_)
      obtain ⟨hr_33, h1_33, h2_33⟩ := h
      refine jv_if_eq (tgt := 50) C hr_33 dX0_choose_33 rfl (fun hc_33 => ?_) (fun hc_33 => ?_)
      · replace h := h1_33 hc_33
        exact jv_less (ls' := [some (.ref (s0.heap.size + (14 : Int).toNat)), some (jv_i a1), some (jv_i a2), some (jv_i a3), some (jv_i x4_6), some (jv_i x5_6), none]) ⟨rfl, ⟨rfl, ⟨rfl, ⟨rfl, ⟨rfl, ⟨rfl, trivial⟩⟩⟩⟩⟩⟩ (hJ50 _ h)
      · replace h := h2_33 hc_33
        refine jv_aload_n C dX0_choose_36 rfl ?_
        refine jv_iload C dX0_choose_37 rfl ?_
        refine jv_iload_n C dX0_choose_39 rfl ?_
        refine jv_callVi C (M_X0_isChosenAhead h) kw_X0_32 sS_14 rfl rfl ⟨rfl, rfl⟩ (st := []) rfl rfl ⟨rfl, rfl⟩ dX0_choose_40 (fun r_40 g_40 h => ?_)
        obtain ⟨hr_43, h1_43, h2_43⟩ := h
        refine jv_if_ne (tgt := 50) C hr_43 dX0_choose_43 rfl (fun hc_43 => ?_) (fun hc_43 => ?_)
        · replace h := h1_43 hc_43
          exact jv_less (ls' := [some (.ref (s0.heap.size + (14 : Int).toNat)), some (jv_i a1), some (jv_i a2), some (jv_i a3), some (jv_i x4_6), some (jv_i x5_6), none]) ⟨rfl, ⟨rfl, ⟨rfl, ⟨rfl, ⟨rfl, ⟨rfl, trivial⟩⟩⟩⟩⟩⟩ (hJ50 _ h)
        · replace h := h2_43 hc_43
          refine jv_const C dX0_choose_46 ?_
          refine jv_goto (tgt := 51) C dX0_choose_47 rfl ?_
          exact jv_less (ls' := [some (.ref (s0.heap.size + (14 : Int).toNat)), some (jv_i a1), some (jv_i a2), some (jv_i a3), some (jv_i x4_6), some (jv_i x5_6), none]) ⟨rfl, ⟨rfl, ⟨rfl, ⟨rfl, ⟨rfl, ⟨rfl, trivial⟩⟩⟩⟩⟩⟩ (hJ51 _ _ h)

def wp_X0_useChosen (a1 : Int) (Q : jv_Mem → Prop) (g : jv_Mem) : Prop :=
  jv_lp1 (fun (K2 : Int → jv_Mem → Prop) (x2_2 : Int) (gl_2 : jv_Mem) => ((jv_r x2_2) ∧ (6 ≤ x2_2 → Q gl_2) ∧ (x2_2 < 6 → (((0 : Int) ≤ x2_2 ∧ x2_2 < (6 : Int)) ∧ (((0 : Int) ≤ gl_2 18 x2_2 ∧ gl_2 18 x2_2 < (60 : Int)) ∧ (∀ g_19 : jv_Mem, g_19 = jv_up gl_2 17 (gl_2 18 x2_2) a1 → (∀ v2_20 : Int, v2_20 = x2_2 + 1 → K2 v2_20 g_19))))))) 0 g
set_option maxHeartbeats 4000000 in
set_option maxRecDepth 100000 in
theorem M_X0_useChosen {l : Launch} {s0 : State} {b0 : Addr} {D : va_G} {ids : Nat → ClassId} {ex : Option Nat} {g : jv_Mem} {a1 : Int} {Q : jv_Mem → Prop} (h : wp_X0_useChosen a1 Q g) : jv_M l s0 b0 D ids yX0_useChosen cX0_useChosen 3 none 0 0 0 0 ex jv_SH g [.ref (s0.heap.size + (14 : Int).toNat), jv_i a1] ex jv_SH (jv_qv Q) := by
  refine jv_M.of (by decide +kernel) rfl rfl (fun p e s m args below meth c C hml hr hlk hnm => ?_)
  replace C : jv_C p s m args c cX0_useChosen RX0 s0 b0 D ids := C
  show jv_V p l e (jv_rm 0 0 0 0) s m args below meth c 0 0 (jv_ZM below s0 D ids ex jv_SH (jv_qv Q) args s 0 0) s0 D ids ex jv_SH g 0 [some (.ref (s0.heap.size + (14 : Int).toNat)), some (jv_i a1), none] []
  unfold wp_X0_useChosen at h
  refine jv_const C dX0_useChosen_0 ?_
  refine jv_istore_n (ls' := [some (.ref (s0.heap.size + (14 : Int).toNat)), some (jv_i a1), some (jv_i 0)]) C dX0_useChosen_1 (Nat.lt_of_lt_of_eq (Nat.le_of_ble_eq_true rfl) hml) rfl ?_
  refine jv_less (ls' := [some (.ref (s0.heap.size + (14 : Int).toNat)), some (jv_i a1), some (jv_i 0)]) ⟨rfl, ⟨rfl, ⟨rfl, trivial⟩⟩⟩ ?_
  refine jv_lp1.use h (fun (x2_2 : Int) (gl_2 : jv_Mem) => jv_V p l e (jv_rm 0 0 0 0) s m args below meth c 0 0 (jv_ZM below s0 D ids ex jv_SH (jv_qv Q) args s 0 0) s0 D ids ex jv_SH gl_2 2 [some (.ref (s0.heap.size + (14 : Int).toNat)), some (jv_i a1), some (jv_i x2_2)] []) ?_
  intro K2 hK2 x2_2 gl_2 h
  refine jv_iload_n C dX0_useChosen_2 rfl ?_
  refine jv_bipush C dX0_useChosen_3 (by decide +kernel) ?_
  obtain ⟨hr_5, h1_5, h2_5⟩ := h
  refine jv_icmp_ge (tgt := 26) C hr_5 ⟨by decide, by decide⟩ dX0_useChosen_5 rfl (fun hc_5 => ?_) (fun hc_5 => ?_)
  · replace h := h1_5 hc_5
    exact jv_vret C hr hlk ⟨rfl, h⟩ dX0_useChosen_26 ⟨rfl, rfl⟩
  · replace h := h2_5 hc_5
    refine jv_aload_n C dX0_useChosen_8 rfl ?_
    refine jv_getr C kf_X0_18 sS_14 rfl dX0_useChosen_9 ?_
    refine jv_aload_n C dX0_useChosen_12 rfl ?_
    refine jv_getr C kf_X0_21 sS_14 rfl dX0_useChosen_13 ?_
    refine jv_iload_n C dX0_useChosen_16 rfl ?_
    obtain ⟨hb_17, h⟩ := h
    refine jv_iald C sS_18 rfl hb_17 dX0_useChosen_17 ?_
    refine jv_iload_n C dX0_useChosen_18 rfl ?_
    obtain ⟨hb_19, h⟩ := h
    refine jv_iast C sS_17 rfl hb_19 dX0_useChosen_19 (jv_gm (fun g_19 eg_19 => ?_))
    replace h := h g_19 eg_19
    refine jv_iincn C dX0_useChosen_20 (Nat.lt_of_lt_of_eq (Nat.le_of_ble_eq_true rfl) hml) rfl (fun v2_20 ev2_20 => ?_)
    replace h := h v2_20 ev2_20
    refine jv_lset (ls' := [some (.ref (s0.heap.size + (14 : Int).toNat)), some (jv_i a1), some (jv_i v2_20)]) rfl ?_
    refine jv_goto (tgt := 2) C dX0_useChosen_23 rfl ?_
    exact jv_less (ls' := [some (.ref (s0.heap.size + (14 : Int).toNat)), some (jv_i a1), some (jv_i v2_20)]) ⟨rfl, ⟨rfl, ⟨rfl, trivial⟩⟩⟩ (hK2 _ _ h)

def wp_X1_count (Q : Int → jv_Mem → Prop) (g : jv_Mem) : Prop :=
  Q (g 21 4) g
set_option maxHeartbeats 4000000 in
set_option maxRecDepth 100000 in
theorem M_X1_count {l : Launch} {s0 : State} {b0 : Addr} {D : va_G} {ids : Nat → ClassId} {ex : Option Nat} {g : jv_Mem} {Q : Int → jv_Mem → Prop} (h : wp_X1_count Q g) : jv_M l s0 b0 D ids yX1_count cX1_count 1 (some .int) 0 0 0 0 ex jv_SH g [.ref (s0.heap.size + (21 : Int).toNat)] ex jv_SH (jv_qi Q) := by
  refine jv_M.of (by decide +kernel) rfl rfl (fun p e s m args below meth c C hml hr hlk hnm => ?_)
  replace C : jv_C p s m args c cX1_count RX1 s0 b0 D ids := C
  show jv_V p l e (jv_rm 0 0 0 0) s m args below meth c 0 0 (jv_ZM below s0 D ids ex jv_SH (jv_qi Q) args s 0 0) s0 D ids ex jv_SH g 0 [some (.ref (s0.heap.size + (21 : Int).toNat))] []
  unfold wp_X1_count at h
  refine jv_aload_n C dX1_count_0 rfl ?_
  refine jv_geti C kf_X1_24 sS_21 rfl dX1_count_1 ?_
  exact jv_iret C hr hlk ⟨_, rfl, h⟩ dX1_count_4 ⟨rfl, rfl⟩

def wp_X1_add (a1 : Int) (a2 : Int) (a3 : Int) (a4 : Int) (Q : jv_Mem → Prop) (g : jv_Mem) : Prop :=
  ((jv_r (g 21 4)) ∧ (1200 ≤ (g 21 4) → Q g) ∧ ((g 21 4) < 1200 → (((0 : Int) ≤ g 21 4 ∧ g 21 4 < (1200 : Int)) ∧ (∀ g_19 : jv_Mem, g_19 = jv_up g 22 (g 21 4) a1 → (((0 : Int) ≤ g_19 21 4 ∧ g_19 21 4 < (1200 : Int)) ∧ (∀ g_29 : jv_Mem, g_29 = jv_up g_19 23 (g_19 21 4) a2 → (((0 : Int) ≤ g_29 21 4 ∧ g_29 21 4 < (1200 : Int)) ∧ (∀ g_39 : jv_Mem, g_39 = jv_up g_29 24 (g_29 21 4) a3 → (((0 : Int) ≤ g_39 21 4 ∧ g_39 21 4 < (1200 : Int)) ∧ (∀ g_50 : jv_Mem, g_50 = jv_up g_39 25 (g_39 21 4) a4 → (∀ g_58 : jv_Mem, g_58 = jv_up g_50 21 4 ((g_50 21 4) + 1) → Q g_58)))))))))))
set_option maxHeartbeats 4000000 in
set_option maxRecDepth 100000 in
theorem M_X1_add {l : Launch} {s0 : State} {b0 : Addr} {D : va_G} {ids : Nat → ClassId} {ex : Option Nat} {g : jv_Mem} {a1 : Int} {a2 : Int} {a3 : Int} {a4 : Int} {Q : jv_Mem → Prop} (h : wp_X1_add a1 a2 a3 a4 Q g) : jv_M l s0 b0 D ids yX1_add cX1_add 5 none 0 0 0 0 ex jv_SH g [.ref (s0.heap.size + (21 : Int).toNat), jv_i a1, jv_i a2, jv_i a3, jv_i a4] ex jv_SH (jv_qv Q) := by
  refine jv_M.of (by decide +kernel) rfl rfl (fun p e s m args below meth c C hml hr hlk hnm => ?_)
  replace C : jv_C p s m args c cX1_add RX1 s0 b0 D ids := C
  show jv_V p l e (jv_rm 0 0 0 0) s m args below meth c 0 0 (jv_ZM below s0 D ids ex jv_SH (jv_qv Q) args s 0 0) s0 D ids ex jv_SH g 0 [some (.ref (s0.heap.size + (21 : Int).toNat)), some (jv_i a1), some (jv_i a2), some (jv_i a3), some (jv_i a4)] []
  unfold wp_X1_add at h
  refine jv_aload_n C dX1_add_0 rfl ?_
  refine jv_geti C kf_X1_24 sS_21 rfl dX1_add_1 ?_
  refine jv_sipush C dX1_add_4 (by decide +kernel) ?_
  obtain ⟨hr_7, h1_7, h2_7⟩ := h
  refine jv_icmp_ge (tgt := 61) C hr_7 ⟨by decide, by decide⟩ dX1_add_7 rfl (fun hc_7 => ?_) (fun hc_7 => ?_)
  · replace h := h1_7 hc_7
    exact jv_vret C hr hlk ⟨rfl, h⟩ dX1_add_61 ⟨rfl, rfl⟩
  · replace h := h2_7 hc_7
    refine jv_aload_n C dX1_add_10 rfl ?_
    refine jv_getr C kf_X1_9 sS_21 rfl dX1_add_11 ?_
    refine jv_aload_n C dX1_add_14 rfl ?_
    refine jv_geti C kf_X1_24 sS_21 rfl dX1_add_15 ?_
    refine jv_iload_n C dX1_add_18 rfl ?_
    obtain ⟨hb_19, h⟩ := h
    refine jv_iast C sS_22 rfl hb_19 dX1_add_19 (jv_gm (fun g_19 eg_19 => ?_))
    replace h := h g_19 eg_19
    refine jv_aload_n C dX1_add_20 rfl ?_
    refine jv_getr C kf_X1_15 sS_21 rfl dX1_add_21 ?_
    refine jv_aload_n C dX1_add_24 rfl ?_
    refine jv_geti C kf_X1_24 sS_21 rfl dX1_add_25 ?_
    refine jv_iload_n C dX1_add_28 rfl ?_
    obtain ⟨hb_29, h⟩ := h
    refine jv_iast C sS_23 rfl hb_29 dX1_add_29 (jv_gm (fun g_29 eg_29 => ?_))
    replace h := h g_29 eg_29
    refine jv_aload_n C dX1_add_30 rfl ?_
    refine jv_getr C kf_X1_18 sS_21 rfl dX1_add_31 ?_
    refine jv_aload_n C dX1_add_34 rfl ?_
    refine jv_geti C kf_X1_24 sS_21 rfl dX1_add_35 ?_
    refine jv_iload_n C dX1_add_38 rfl ?_
    obtain ⟨hb_39, h⟩ := h
    refine jv_iast C sS_24 rfl hb_39 dX1_add_39 (jv_gm (fun g_39 eg_39 => ?_))
    replace h := h g_39 eg_39
    refine jv_aload_n C dX1_add_40 rfl ?_
    refine jv_getr C kf_X1_21 sS_21 rfl dX1_add_41 ?_
    refine jv_aload_n C dX1_add_44 rfl ?_
    refine jv_geti C kf_X1_24 sS_21 rfl dX1_add_45 ?_
    refine jv_iload C dX1_add_48 rfl ?_
    obtain ⟨hb_50, h⟩ := h
    refine jv_iast C sS_25 rfl hb_50 dX1_add_50 (jv_gm (fun g_50 eg_50 => ?_))
    replace h := h g_50 eg_50
    refine jv_aload_n C dX1_add_51 rfl ?_
    refine jv_dup C rfl dX1_add_52 ?_
    refine jv_geti C kf_X1_24 sS_21 rfl dX1_add_53 ?_
    refine jv_const C dX1_add_56 ?_
    refine jv_iadd C dX1_add_57 ?_
    refine jv_puti C kf_X1_24 sS_21 rfl dX1_add_58 (jv_gm (fun g_58 eg_58 => ?_))
    replace h := h g_58 eg_58
    exact jv_vret C hr hlk ⟨rfl, h⟩ dX1_add_61 ⟨rfl, rfl⟩

def wp_X1_solver (a1 : Int) (Q : Int → jv_Mem → Prop) (g : jv_Mem) : Prop :=
  (((0 : Int) ≤ a1 ∧ a1 < (1200 : Int)) ∧ Q (g 22 a1) g)
set_option maxHeartbeats 4000000 in
set_option maxRecDepth 100000 in
theorem M_X1_solver {l : Launch} {s0 : State} {b0 : Addr} {D : va_G} {ids : Nat → ClassId} {ex : Option Nat} {g : jv_Mem} {a1 : Int} {Q : Int → jv_Mem → Prop} (h : wp_X1_solver a1 Q g) : jv_M l s0 b0 D ids yX1_solver cX1_solver 2 (some .int) 0 0 0 0 ex jv_SH g [.ref (s0.heap.size + (21 : Int).toNat), jv_i a1] ex jv_SH (jv_qi Q) := by
  refine jv_M.of (by decide +kernel) rfl rfl (fun p e s m args below meth c C hml hr hlk hnm => ?_)
  replace C : jv_C p s m args c cX1_solver RX1 s0 b0 D ids := C
  show jv_V p l e (jv_rm 0 0 0 0) s m args below meth c 0 0 (jv_ZM below s0 D ids ex jv_SH (jv_qi Q) args s 0 0) s0 D ids ex jv_SH g 0 [some (.ref (s0.heap.size + (21 : Int).toNat)), some (jv_i a1)] []
  unfold wp_X1_solver at h
  refine jv_aload_n C dX1_solver_0 rfl ?_
  refine jv_getr C kf_X1_9 sS_21 rfl dX1_solver_1 ?_
  refine jv_iload_n C dX1_solver_4 rfl ?_
  obtain ⟨hb_5, h⟩ := h
  refine jv_iald C sS_22 rfl hb_5 dX1_solver_5 ?_
  exact jv_iret C hr hlk ⟨_, rfl, h⟩ dX1_solver_6 ⟨rfl, rfl⟩

def wp_X1_puzzle (a1 : Int) (Q : Int → jv_Mem → Prop) (g : jv_Mem) : Prop :=
  (((0 : Int) ≤ a1 ∧ a1 < (1200 : Int)) ∧ Q (g 23 a1) g)
set_option maxHeartbeats 4000000 in
set_option maxRecDepth 100000 in
theorem M_X1_puzzle {l : Launch} {s0 : State} {b0 : Addr} {D : va_G} {ids : Nat → ClassId} {ex : Option Nat} {g : jv_Mem} {a1 : Int} {Q : Int → jv_Mem → Prop} (h : wp_X1_puzzle a1 Q g) : jv_M l s0 b0 D ids yX1_puzzle cX1_puzzle 2 (some .int) 0 0 0 0 ex jv_SH g [.ref (s0.heap.size + (21 : Int).toNat), jv_i a1] ex jv_SH (jv_qi Q) := by
  refine jv_M.of (by decide +kernel) rfl rfl (fun p e s m args below meth c C hml hr hlk hnm => ?_)
  replace C : jv_C p s m args c cX1_puzzle RX1 s0 b0 D ids := C
  show jv_V p l e (jv_rm 0 0 0 0) s m args below meth c 0 0 (jv_ZM below s0 D ids ex jv_SH (jv_qi Q) args s 0 0) s0 D ids ex jv_SH g 0 [some (.ref (s0.heap.size + (21 : Int).toNat)), some (jv_i a1)] []
  unfold wp_X1_puzzle at h
  refine jv_aload_n C dX1_puzzle_0 rfl ?_
  refine jv_getr C kf_X1_15 sS_21 rfl dX1_puzzle_1 ?_
  refine jv_iload_n C dX1_puzzle_4 rfl ?_
  obtain ⟨hb_5, h⟩ := h
  refine jv_iald C sS_23 rfl hb_5 dX1_puzzle_5 ?_
  exact jv_iret C hr hlk ⟨_, rfl, h⟩ dX1_puzzle_6 ⟨rfl, rfl⟩

def wp_X1_part (a1 : Int) (Q : Int → jv_Mem → Prop) (g : jv_Mem) : Prop :=
  (((0 : Int) ≤ a1 ∧ a1 < (1200 : Int)) ∧ Q (g 24 a1) g)
set_option maxHeartbeats 4000000 in
set_option maxRecDepth 100000 in
theorem M_X1_part {l : Launch} {s0 : State} {b0 : Addr} {D : va_G} {ids : Nat → ClassId} {ex : Option Nat} {g : jv_Mem} {a1 : Int} {Q : Int → jv_Mem → Prop} (h : wp_X1_part a1 Q g) : jv_M l s0 b0 D ids yX1_part cX1_part 2 (some .int) 0 0 0 0 ex jv_SH g [.ref (s0.heap.size + (21 : Int).toNat), jv_i a1] ex jv_SH (jv_qi Q) := by
  refine jv_M.of (by decide +kernel) rfl rfl (fun p e s m args below meth c C hml hr hlk hnm => ?_)
  replace C : jv_C p s m args c cX1_part RX1 s0 b0 D ids := C
  show jv_V p l e (jv_rm 0 0 0 0) s m args below meth c 0 0 (jv_ZM below s0 D ids ex jv_SH (jv_qi Q) args s 0 0) s0 D ids ex jv_SH g 0 [some (.ref (s0.heap.size + (21 : Int).toNat)), some (jv_i a1)] []
  unfold wp_X1_part at h
  refine jv_aload_n C dX1_part_0 rfl ?_
  refine jv_getr C kf_X1_18 sS_21 rfl dX1_part_1 ?_
  refine jv_iload_n C dX1_part_4 rfl ?_
  obtain ⟨hb_5, h⟩ := h
  refine jv_iald C sS_24 rfl hb_5 dX1_part_5 ?_
  exact jv_iret C hr hlk ⟨_, rfl, h⟩ dX1_part_6 ⟨rfl, rfl⟩

def wp_X1_hourOf (a1 : Int) (Q : Int → jv_Mem → Prop) (g : jv_Mem) : Prop :=
  (((0 : Int) ≤ a1 ∧ a1 < (1200 : Int)) ∧ Q (g 25 a1) g)
set_option maxHeartbeats 4000000 in
set_option maxRecDepth 100000 in
theorem M_X1_hourOf {l : Launch} {s0 : State} {b0 : Addr} {D : va_G} {ids : Nat → ClassId} {ex : Option Nat} {g : jv_Mem} {a1 : Int} {Q : Int → jv_Mem → Prop} (h : wp_X1_hourOf a1 Q g) : jv_M l s0 b0 D ids yX1_hourOf cX1_hourOf 2 (some .int) 0 0 0 0 ex jv_SH g [.ref (s0.heap.size + (21 : Int).toNat), jv_i a1] ex jv_SH (jv_qi Q) := by
  refine jv_M.of (by decide +kernel) rfl rfl (fun p e s m args below meth c C hml hr hlk hnm => ?_)
  replace C : jv_C p s m args c cX1_hourOf RX1 s0 b0 D ids := C
  show jv_V p l e (jv_rm 0 0 0 0) s m args below meth c 0 0 (jv_ZM below s0 D ids ex jv_SH (jv_qi Q) args s 0 0) s0 D ids ex jv_SH g 0 [some (.ref (s0.heap.size + (21 : Int).toNat)), some (jv_i a1)] []
  unfold wp_X1_hourOf at h
  refine jv_aload_n C dX1_hourOf_0 rfl ?_
  refine jv_getr C kf_X1_21 sS_21 rfl dX1_hourOf_1 ?_
  refine jv_iload_n C dX1_hourOf_4 rfl ?_
  obtain ⟨hb_5, h⟩ := h
  refine jv_iald C sS_25 rfl hb_5 dX1_hourOf_5 ?_
  exact jv_iret C hr hlk ⟨_, rfl, h⟩ dX1_hourOf_6 ⟨rfl, rfl⟩

def wp_X2_begin (t : Int) (a1 : Int) (Q : jv_Mem → Prop) (g : jv_Mem) : Prop :=
  (∀ g_2 : jv_Mem, g_2 = jv_up g t 2 a1 → (∀ g_10 : jv_Mem, g_10 = jv_fill g_2 (t + 1) 180 ((-1)) → jv_lp1 (fun (K15 : Int → jv_Mem → Prop) (x2_15 : Int) (gl_15 : jv_Mem) => ((jv_r x2_15) ∧ (1252 ≤ x2_15 → Q gl_15) ∧ (x2_15 < 1252 → (((0 : Int) ≤ x2_15 ∧ x2_15 < (1252 : Int)) ∧ (∀ g_28 : jv_Mem, g_28 = jv_up gl_15 (t + 2) x2_15 0 → (∀ v2_29 : Int, v2_29 = x2_15 + 1 → K15 v2_29 g_28)))))) 0 g_10))
set_option maxHeartbeats 4000000 in
set_option maxRecDepth 100000 in
theorem M_X2_begin {l : Launch} {s0 : State} {b0 : Addr} {D : va_G} {ids : Nat → ClassId} {ex : Option Nat} {g : jv_Mem} {t : Int} {a1 : Int} {Q : jv_Mem → Prop} (ht : jv_isPg t) (h : wp_X2_begin t a1 Q g) : jv_M l s0 b0 D ids yX2_begin cX2_begin 3 none 1 23 0 0 ex jv_SH g [.ref (s0.heap.size + (t : Int).toNat), jv_i a1] ex jv_SH (jv_qv Q) := by
  refine jv_M.of (by decide +kernel) rfl rfl (fun p e s m args below meth c C hml hr hlk hnm => ?_)
  replace C : jv_C p s m args c cX2_begin RX2 s0 b0 D ids := C
  show jv_V p l e (jv_rm 1 23 0 0) s m args below meth c 0 0 (jv_ZM below s0 D ids ex jv_SH (jv_qv Q) args s 0 0) s0 D ids ex jv_SH g 0 [some (.ref (s0.heap.size + (t : Int).toNat)), some (jv_i a1), none] []
  unfold wp_X2_begin at h
  refine jv_aload_n C dX2_begin_0 rfl ?_
  refine jv_iload_n C dX2_begin_1 rfl ?_
  refine jv_puti C kf_X2_19 ht.1 rfl dX2_begin_2 (jv_gm (fun g_2 eg_2 => ?_))
  replace h := h g_2 eg_2
  refine jv_aload_n C dX2_begin_5 rfl ?_
  refine jv_getr C kf_X2_9 ht.1 rfl dX2_begin_6 ?_
  refine jv_const C dX2_begin_9 ?_
  refine jv_callSv C (Q := fun g' => g' = jv_fill g_2 (t + 1) 180 ((-1))) (M_J7_fill ht.2.1 rfl rfl) kw_X2_23 rfl ⟨rfl, rfl⟩ (st := []) rfl rfl ⟨rfl, rfl⟩ dX2_begin_10 (fun g_10 eg_10 => ?_)
  replace h := h g_10 eg_10
  refine jv_const C dX2_begin_13 ?_
  refine jv_istore_n (ls' := [some (.ref (s0.heap.size + (t : Int).toNat)), some (jv_i a1), some (jv_i 0)]) C dX2_begin_14 (Nat.lt_of_lt_of_eq (Nat.le_of_ble_eq_true rfl) hml) rfl ?_
  refine jv_less (ls' := [some (.ref (s0.heap.size + (t : Int).toNat)), none, some (jv_i 0)]) ⟨rfl, ⟨rfl, trivial⟩⟩ ?_
  refine jv_lp1.use h (fun (x2_15 : Int) (gl_15 : jv_Mem) => jv_V p l e (jv_rm 1 23 0 0) s m args below meth c 0 0 (jv_ZM below s0 D ids ex jv_SH (jv_qv Q) args s 0 0) s0 D ids ex jv_SH gl_15 15 [some (.ref (s0.heap.size + (t : Int).toNat)), none, some (jv_i x2_15)] []) ?_
  intro K15 hK15 x2_15 gl_15 h
  refine jv_iload_n C dX2_begin_15 rfl ?_
  refine jv_sipush C dX2_begin_16 (by decide +kernel) ?_
  obtain ⟨hr_19, h1_19, h2_19⟩ := h
  refine jv_icmp_ge (tgt := 35) C hr_19 ⟨by decide, by decide⟩ dX2_begin_19 rfl (fun hc_19 => ?_) (fun hc_19 => ?_)
  · replace h := h1_19 hc_19
    exact jv_vret C hr hlk ⟨rfl, h⟩ dX2_begin_35 ⟨rfl, rfl⟩
  · replace h := h2_19 hc_19
    refine jv_aload_n C dX2_begin_22 rfl ?_
    refine jv_getr C kf_X2_15 ht.1 rfl dX2_begin_23 ?_
    refine jv_iload_n C dX2_begin_26 rfl ?_
    refine jv_const C dX2_begin_27 ?_
    obtain ⟨hb_28, h⟩ := h
    refine jv_zast C ht.2.2 rfl (Or.inl rfl) hb_28 dX2_begin_28 (jv_gm (fun g_28 eg_28 => ?_))
    replace h := h g_28 eg_28
    refine jv_iincn C dX2_begin_29 (Nat.lt_of_lt_of_eq (Nat.le_of_ble_eq_true rfl) hml) rfl (fun v2_29 ev2_29 => ?_)
    replace h := h v2_29 ev2_29
    refine jv_lset (ls' := [some (.ref (s0.heap.size + (t : Int).toNat)), none, some (jv_i v2_29)]) rfl ?_
    refine jv_goto (tgt := 15) C dX2_begin_32 rfl ?_
    exact jv_less (ls' := [some (.ref (s0.heap.size + (t : Int).toNat)), none, some (jv_i v2_29)]) ⟨rfl, ⟨rfl, trivial⟩⟩ (hK15 _ _ h)

def wp_X2_hoursAhead (t : Int) (Q : Int → jv_Mem → Prop) (g : jv_Mem) : Prop :=
  Q (g t 2) g
set_option maxHeartbeats 4000000 in
set_option maxRecDepth 100000 in
theorem M_X2_hoursAhead {l : Launch} {s0 : State} {b0 : Addr} {D : va_G} {ids : Nat → ClassId} {ex : Option Nat} {g : jv_Mem} {t : Int} {Q : Int → jv_Mem → Prop} (ht : jv_isPg t) (h : wp_X2_hoursAhead t Q g) : jv_M l s0 b0 D ids yX2_hoursAhead cX2_hoursAhead 1 (some .int) 0 0 0 0 ex jv_SH g [.ref (s0.heap.size + (t : Int).toNat)] ex jv_SH (jv_qi Q) := by
  refine jv_M.of (by decide +kernel) rfl rfl (fun p e s m args below meth c C hml hr hlk hnm => ?_)
  replace C : jv_C p s m args c cX2_hoursAhead RX2 s0 b0 D ids := C
  show jv_V p l e (jv_rm 0 0 0 0) s m args below meth c 0 0 (jv_ZM below s0 D ids ex jv_SH (jv_qi Q) args s 0 0) s0 D ids ex jv_SH g 0 [some (.ref (s0.heap.size + (t : Int).toNat))] []
  unfold wp_X2_hoursAhead at h
  refine jv_aload_n C dX2_hoursAhead_0 rfl ?_
  refine jv_geti C kf_X2_19 ht.1 rfl dX2_hoursAhead_1 ?_
  exact jv_iret C hr hlk ⟨_, rfl, h⟩ dX2_hoursAhead_4 ⟨rfl, rfl⟩

def wp_X2_isRight (t : Int) (a1 : Int) (a2 : Int) (Q : Int → jv_Mem → Prop) (g : jv_Mem) : Prop :=
  (((0 : Int) ≤ (a1 * 9) + a2 ∧ (a1 * 9) + a2 < (180 : Int)) ∧ ((jv_r (g (t + 1) ((a1 * 9) + a2))) ∧ ((g (t + 1) ((a1 * 9) + a2)) = ((-1)) → Q 0 g) ∧ (¬ (g (t + 1) ((a1 * 9) + a2)) = ((-1)) → Q 1 g)))
set_option maxHeartbeats 4000000 in
set_option maxRecDepth 100000 in
theorem M_X2_isRight {l : Launch} {s0 : State} {b0 : Addr} {D : va_G} {ids : Nat → ClassId} {ex : Option Nat} {g : jv_Mem} {t : Int} {a1 : Int} {a2 : Int} {Q : Int → jv_Mem → Prop} (ht : jv_isPg t) (h : wp_X2_isRight t a1 a2 Q g) : jv_M l s0 b0 D ids yX2_isRight cX2_isRight 3 (some .boolean) 0 0 0 0 ex jv_SH g [.ref (s0.heap.size + (t : Int).toNat), jv_i a1, jv_i a2] ex jv_SH (jv_qi Q) := by
  refine jv_M.of (by decide +kernel) rfl rfl (fun p e s m args below meth c C hml hr hlk hnm => ?_)
  replace C : jv_C p s m args c cX2_isRight RX2 s0 b0 D ids := C
  show jv_V p l e (jv_rm 0 0 0 0) s m args below meth c 0 0 (jv_ZM below s0 D ids ex jv_SH (jv_qi Q) args s 0 0) s0 D ids ex jv_SH g 0 [some (.ref (s0.heap.size + (t : Int).toNat)), some (jv_i a1), some (jv_i a2)] []
  unfold wp_X2_isRight at h
  refine jv_aload_n C dX2_isRight_0 rfl ?_
  refine jv_getr C kf_X2_9 ht.1 rfl dX2_isRight_1 ?_
  refine jv_iload_n C dX2_isRight_4 rfl ?_
  refine jv_bipush C dX2_isRight_5 (by decide +kernel) ?_
  refine jv_imul C dX2_isRight_7 ?_
  refine jv_iload_n C dX2_isRight_8 rfl ?_
  refine jv_iadd C dX2_isRight_9 ?_
  obtain ⟨hb_10, h⟩ := h
  refine jv_iald C ht.2.1 rfl hb_10 dX2_isRight_10 ?_
  refine jv_const C dX2_isRight_11 ?_
  obtain ⟨hr_12, h1_12, h2_12⟩ := h
  refine jv_icmp_eq (tgt := 19) C hr_12 ⟨by decide, by decide⟩ dX2_isRight_12 rfl (fun hc_12 => ?_) (fun hc_12 => ?_)
  · replace h := h1_12 hc_12
    refine jv_const C dX2_isRight_19 ?_
    exact jv_zret C hr hlk rfl ⟨_, rfl, h⟩ dX2_isRight_20 ⟨rfl, rfl⟩
  · replace h := h2_12 hc_12
    refine jv_const C dX2_isRight_15 ?_
    refine jv_goto (tgt := 20) C dX2_isRight_16 rfl ?_
    exact jv_zret C hr hlk rfl ⟨_, rfl, h⟩ dX2_isRight_20 ⟨rfl, rfl⟩

def wp_X2_setRight (t : Int) (a1 : Int) (a2 : Int) (a3 : Int) (Q : jv_Mem → Prop) (g : jv_Mem) : Prop :=
  (((0 : Int) ≤ (a1 * 9) + a2 ∧ (a1 * 9) + a2 < (180 : Int)) ∧ (∀ g_11 : jv_Mem, g_11 = jv_up g (t + 1) ((a1 * 9) + a2) a3 → Q g_11))
set_option maxHeartbeats 4000000 in
set_option maxRecDepth 100000 in
theorem M_X2_setRight {l : Launch} {s0 : State} {b0 : Addr} {D : va_G} {ids : Nat → ClassId} {ex : Option Nat} {g : jv_Mem} {t : Int} {a1 : Int} {a2 : Int} {a3 : Int} {Q : jv_Mem → Prop} (ht : jv_isPg t) (h : wp_X2_setRight t a1 a2 a3 Q g) : jv_M l s0 b0 D ids yX2_setRight cX2_setRight 4 none 0 0 0 0 ex jv_SH g [.ref (s0.heap.size + (t : Int).toNat), jv_i a1, jv_i a2, jv_i a3] ex jv_SH (jv_qv Q) := by
  refine jv_M.of (by decide +kernel) rfl rfl (fun p e s m args below meth c C hml hr hlk hnm => ?_)
  replace C : jv_C p s m args c cX2_setRight RX2 s0 b0 D ids := C
  show jv_V p l e (jv_rm 0 0 0 0) s m args below meth c 0 0 (jv_ZM below s0 D ids ex jv_SH (jv_qv Q) args s 0 0) s0 D ids ex jv_SH g 0 [some (.ref (s0.heap.size + (t : Int).toNat)), some (jv_i a1), some (jv_i a2), some (jv_i a3)] []
  unfold wp_X2_setRight at h
  refine jv_aload_n C dX2_setRight_0 rfl ?_
  refine jv_getr C kf_X2_9 ht.1 rfl dX2_setRight_1 ?_
  refine jv_iload_n C dX2_setRight_4 rfl ?_
  refine jv_bipush C dX2_setRight_5 (by decide +kernel) ?_
  refine jv_imul C dX2_setRight_7 ?_
  refine jv_iload_n C dX2_setRight_8 rfl ?_
  refine jv_iadd C dX2_setRight_9 ?_
  refine jv_iload_n C dX2_setRight_10 rfl ?_
  obtain ⟨hb_11, h⟩ := h
  refine jv_iast C ht.2.1 rfl hb_11 dX2_setRight_11 (jv_gm (fun g_11 eg_11 => ?_))
  replace h := h g_11 eg_11
  exact jv_vret C hr hlk ⟨rfl, h⟩ dX2_setRight_12 ⟨rfl, rfl⟩

def wB_X2_solvedHour_85 (K9 : Int → Int → Int → jv_Mem → Prop) (x4_61 : Int) (x6_9 : Int) (x5_85 : Int) (gj_85 : jv_Mem) : Prop :=
  (∀ v6_85 : Int, v6_85 = x6_9 + 1 → K9 x4_61 x5_85 v6_85 gj_85)
def wB_X2_solvedHour_61 (t : Int) (a1 : Int) (K9 : Int → Int → Int → jv_Mem → Prop) (x5_9 : Int) (x6_9 : Int) (y0_30 : Int) (x4_61 : Int) (gj_61 : jv_Mem) : Prop :=
  ((jv_r y0_30) ∧ (¬ y0_30 = 0 → wB_X2_solvedHour_85 K9 x4_61 x6_9 x5_9 gj_61) ∧ (y0_30 = 0 → (((0 : Int) ≤ (a1 * 9) + x6_9 ∧ (a1 * 9) + x6_9 < (180 : Int)) ∧ ((jv_r x5_9 ∧ jv_r (gj_61 (t + 1) ((a1 * 9) + x6_9))) ∧ (∀ v5_83 : Int, v5_83 = (if x5_9 < (gj_61 (t + 1) ((a1 * 9) + x6_9)) then (gj_61 (t + 1) ((a1 * 9) + x6_9)) else x5_9) → wB_X2_solvedHour_85 K9 x4_61 x6_9 v5_83 gj_61)))))
def wB_X2_solvedHour_53 (t : Int) (a1 : Int) (K9 : Int → Int → Int → jv_Mem → Prop) (r_36 : Int) (x4_9 : Int) (x5_9 : Int) (x6_9 : Int) (y0_30 : Int) (gj_53 : jv_Mem) : Prop :=
  ((jv_r r_36) ∧ (r_36 = 0 → wB_X2_solvedHour_61 t a1 K9 x5_9 x6_9 y0_30 x4_9 gj_53) ∧ (¬ r_36 = 0 → wB_X2_solvedHour_61 t a1 K9 x5_9 x6_9 y0_30 1 gj_53))
def wB_X2_solvedHour_30 (t : Int) (a1 : Int) (Q : Int → jv_Mem → Prop) (K9 : Int → Int → Int → jv_Mem → Prop) (x4_9 : Int) (x5_9 : Int) (x6_9 : Int) (y0_30 : Int) (gj_30 : jv_Mem) : Prop :=
  (wp_X2_isRight t a1 x6_9 (fun (r_36 : Int) (g_36 : jv_Mem) => ((jv_r r_36) ∧ (¬ r_36 = 0 → wB_X2_solvedHour_53 t a1 K9 r_36 x4_9 x5_9 x6_9 y0_30 g_36) ∧ (r_36 = 0 → ((jv_r y0_30) ∧ (¬ y0_30 = 0 → wB_X2_solvedHour_53 t a1 K9 r_36 x4_9 x5_9 x6_9 y0_30 g_36) ∧ (y0_30 = 0 → Q ((-1)) g_36))))) gj_30)
def wp_X2_solvedHour (t : Int) (a1 : Int) (a2 : Int) (a3 : Int) (Q : Int → jv_Mem → Prop) (g : jv_Mem) : Prop :=
  jv_lp3 (fun (K9 : Int → Int → Int → jv_Mem → Prop) (x4_9 x5_9 x6_9 : Int) (gl_9 : jv_Mem) => ((jv_r x6_9) ∧ (9 ≤ x6_9 → ((jv_r x4_9) ∧ (¬ x4_9 = 0 → ((jv_r a2) ∧ (¬ a2 = 511 → Q x5_9 gl_9) ∧ (a2 = 511 → Q a3 gl_9))) ∧ (x4_9 = 0 → Q ((-1)) gl_9))) ∧ (x6_9 < 9 → ((jv_r (jv_and (jv_shr a2 x6_9) 1)) ∧ ((jv_and (jv_shr a2 x6_9) 1) = 0 → wB_X2_solvedHour_30 t a1 Q K9 x4_9 x5_9 x6_9 0 gl_9) ∧ (¬ (jv_and (jv_shr a2 x6_9) 1) = 0 → wB_X2_solvedHour_30 t a1 Q K9 x4_9 x5_9 x6_9 1 gl_9))))) 0 ((-1)) 0 g
set_option maxHeartbeats 4000000 in
set_option maxRecDepth 100000 in
theorem M_X2_solvedHour {l : Launch} {s0 : State} {b0 : Addr} {D : va_G} {ids : Nat → ClassId} {ex : Option Nat} {g : jv_Mem} {t : Int} {a1 : Int} {a2 : Int} {a3 : Int} {Q : Int → jv_Mem → Prop} (ht : jv_isPg t) (h : wp_X2_solvedHour t a1 a2 a3 Q g) : jv_M l s0 b0 D ids yX2_solvedHour cX2_solvedHour 9 (some .int) 1 22 0 0 ex jv_SH g [.ref (s0.heap.size + (t : Int).toNat), jv_i a1, jv_i a2, jv_i a3] ex jv_SH (jv_qi Q) := by
  refine jv_M.of (by decide +kernel) rfl rfl (fun p e s m args below meth c C hml hr hlk hnm => ?_)
  replace C : jv_C p s m args c cX2_solvedHour RX2 s0 b0 D ids := C
  show jv_V p l e (jv_rm 1 22 0 0) s m args below meth c 0 0 (jv_ZM below s0 D ids ex jv_SH (jv_qi Q) args s 0 0) s0 D ids ex jv_SH g 0 [some (.ref (s0.heap.size + (t : Int).toNat)), some (jv_i a1), some (jv_i a2), some (jv_i a3), none, none, none, none, none] []
  unfold wp_X2_solvedHour at h
  refine jv_const C dX2_solvedHour_0 ?_
  refine jv_istore (ls' := [some (.ref (s0.heap.size + (t : Int).toNat)), some (jv_i a1), some (jv_i a2), some (jv_i a3), some (jv_i 0), none, none, none, none]) C dX2_solvedHour_1 (Nat.lt_of_lt_of_eq (Nat.le_of_ble_eq_true rfl) hml) rfl ?_
  refine jv_const C dX2_solvedHour_3 ?_
  refine jv_istore (ls' := [some (.ref (s0.heap.size + (t : Int).toNat)), some (jv_i a1), some (jv_i a2), some (jv_i a3), some (jv_i 0), some (jv_i ((-1))), none, none, none]) C dX2_solvedHour_4 (Nat.lt_of_lt_of_eq (Nat.le_of_ble_eq_true rfl) hml) rfl ?_
  refine jv_const C dX2_solvedHour_6 ?_
  refine jv_istore (ls' := [some (.ref (s0.heap.size + (t : Int).toNat)), some (jv_i a1), some (jv_i a2), some (jv_i a3), some (jv_i 0), some (jv_i ((-1))), some (jv_i 0), none, none]) C dX2_solvedHour_7 (Nat.lt_of_lt_of_eq (Nat.le_of_ble_eq_true rfl) hml) rfl ?_
  refine jv_less (ls' := [some (.ref (s0.heap.size + (t : Int).toNat)), some (jv_i a1), some (jv_i a2), some (jv_i a3), some (jv_i 0), some (jv_i ((-1))), some (jv_i 0), none, none]) ⟨rfl, ⟨rfl, ⟨rfl, ⟨rfl, ⟨rfl, ⟨rfl, ⟨rfl, trivial⟩⟩⟩⟩⟩⟩⟩ ?_
  refine jv_lp3.use h (fun (x4_9 x5_9 x6_9 : Int) (gl_9 : jv_Mem) => jv_V p l e (jv_rm 1 22 0 0) s m args below meth c 0 0 (jv_ZM below s0 D ids ex jv_SH (jv_qi Q) args s 0 0) s0 D ids ex jv_SH gl_9 9 [some (.ref (s0.heap.size + (t : Int).toNat)), some (jv_i a1), some (jv_i a2), some (jv_i a3), some (jv_i x4_9), some (jv_i x5_9), some (jv_i x6_9), none, none] []) ?_
  intro K9 hK9 x4_9 x5_9 x6_9 gl_9 h
  refine jv_iload C dX2_solvedHour_9 rfl ?_
  refine jv_bipush C dX2_solvedHour_11 (by decide +kernel) ?_
  obtain ⟨hr_13, h1_13, h2_13⟩ := h
  refine jv_icmp_ge (tgt := 91) C hr_13 ⟨by decide, by decide⟩ dX2_solvedHour_13 rfl (fun hc_13 => ?_) (fun hc_13 => ?_)
  · replace h := h1_13 hc_13
    refine jv_iload C dX2_solvedHour_91 rfl ?_
    obtain ⟨hr_93, h1_93, h2_93⟩ := h
    refine jv_if_ne (tgt := 98) C hr_93 dX2_solvedHour_93 rfl (fun hc_93 => ?_) (fun hc_93 => ?_)
    · replace h := h1_93 hc_93
      refine jv_iload_n C dX2_solvedHour_98 rfl ?_
      refine jv_sipush C dX2_solvedHour_99 (by decide +kernel) ?_
      obtain ⟨hr_102, h1_102, h2_102⟩ := h
      refine jv_icmp_ne (tgt := 109) C hr_102 ⟨by decide, by decide⟩ dX2_solvedHour_102 rfl (fun hc_102 => ?_) (fun hc_102 => ?_)
      · replace h := h1_102 hc_102
        refine jv_iload C dX2_solvedHour_109 rfl ?_
        exact jv_iret C hr hlk ⟨_, rfl, h⟩ dX2_solvedHour_111 ⟨rfl, rfl⟩
      · replace h := h2_102 hc_102
        refine jv_iload_n C dX2_solvedHour_105 rfl ?_
        refine jv_goto (tgt := 111) C dX2_solvedHour_106 rfl ?_
        exact jv_iret C hr hlk ⟨_, rfl, h⟩ dX2_solvedHour_111 ⟨rfl, rfl⟩
    · replace h := h2_93 hc_93
      refine jv_const C dX2_solvedHour_96 ?_
      exact jv_iret C hr hlk ⟨_, rfl, h⟩ dX2_solvedHour_97 ⟨rfl, rfl⟩
  · replace h := h2_13 hc_13
    refine jv_iload_n C dX2_solvedHour_16 rfl ?_
    refine jv_iload C dX2_solvedHour_17 rfl ?_
    refine jv_ishr C dX2_solvedHour_19 ?_
    refine jv_const C dX2_solvedHour_20 ?_
    refine jv_iand C dX2_solvedHour_21 ?_
    have hJ30 : ∀ (y0_30 : Int) (gj_30 : jv_Mem), wB_X2_solvedHour_30 t a1 Q K9 x4_9 x5_9 x6_9 y0_30 gj_30 → jv_V p l e (jv_rm 1 22 0 0) s m args below meth c 0 0 (jv_ZM below s0 D ids ex jv_SH (jv_qi Q) args s 0 0) s0 D ids ex jv_SH gj_30 30 [some (.ref (s0.heap.size + (t : Int).toNat)), some (jv_i a1), some (jv_i a2), some (jv_i a3), some (jv_i x4_9), some (jv_i x5_9), some (jv_i x6_9), none, none] [jv_i y0_30] := by
      intro y0_30 gj_30 h
      unfold wB_X2_solvedHour_30 at h
      refine jv_istore (ls' := [some (.ref (s0.heap.size + (t : Int).toNat)), some (jv_i a1), some (jv_i a2), some (jv_i a3), some (jv_i x4_9), some (jv_i x5_9), some (jv_i x6_9), some (jv_i y0_30), none]) C dX2_solvedHour_30 (Nat.lt_of_lt_of_eq (Nat.le_of_ble_eq_true rfl) hml) rfl ?_
      refine jv_aload_n C dX2_solvedHour_32 rfl ?_
      refine jv_iload_n C dX2_solvedHour_33 rfl ?_
      refine jv_iload C dX2_solvedHour_34 rfl ?_
      refine jv_callVi C (M_X2_isRight ht h) kw_X2_29 ht.1 rfl rfl ⟨rfl, rfl⟩ (st := []) rfl rfl ⟨rfl, rfl⟩ dX2_solvedHour_36 (fun r_36 g_36 h => ?_)
      refine jv_istore (ls' := [some (.ref (s0.heap.size + (t : Int).toNat)), some (jv_i a1), some (jv_i a2), some (jv_i a3), some (jv_i x4_9), some (jv_i x5_9), some (jv_i x6_9), some (jv_i y0_30), some (jv_i r_36)]) C dX2_solvedHour_39 (Nat.lt_of_lt_of_eq (Nat.le_of_ble_eq_true rfl) hml) rfl ?_
      refine jv_iload C dX2_solvedHour_41 rfl ?_
      have hJ53 : ∀ (gj_53 : jv_Mem), wB_X2_solvedHour_53 t a1 K9 r_36 x4_9 x5_9 x6_9 y0_30 gj_53 → jv_V p l e (jv_rm 1 22 0 0) s m args below meth c 0 0 (jv_ZM below s0 D ids ex jv_SH (jv_qi Q) args s 0 0) s0 D ids ex jv_SH gj_53 53 [some (.ref (s0.heap.size + (t : Int).toNat)), some (jv_i a1), some (jv_i a2), some (jv_i a3), some (jv_i x4_9), some (jv_i x5_9), some (jv_i x6_9), some (jv_i y0_30), some (jv_i r_36)] [] := by
        intro gj_53 h
        unfold wB_X2_solvedHour_53 at h
        refine jv_iload C dX2_solvedHour_53 rfl ?_
        have hJ61 : ∀ (x4_61 : Int) (gj_61 : jv_Mem), wB_X2_solvedHour_61 t a1 K9 x5_9 x6_9 y0_30 x4_61 gj_61 → jv_V p l e (jv_rm 1 22 0 0) s m args below meth c 0 0 (jv_ZM below s0 D ids ex jv_SH (jv_qi Q) args s 0 0) s0 D ids ex jv_SH gj_61 61 [some (.ref (s0.heap.size + (t : Int).toNat)), some (jv_i a1), some (jv_i a2), some (jv_i a3), some (jv_i x4_61), some (jv_i x5_9), some (jv_i x6_9), some (jv_i y0_30), none] [] := by
          intro x4_61 gj_61 h
          unfold wB_X2_solvedHour_61 at h
          refine jv_iload C dX2_solvedHour_61 rfl ?_
          have hJ85 : ∀ (x5_85 : Int) (gj_85 : jv_Mem), wB_X2_solvedHour_85 K9 x4_61 x6_9 x5_85 gj_85 → jv_V p l e (jv_rm 1 22 0 0) s m args below meth c 0 0 (jv_ZM below s0 D ids ex jv_SH (jv_qi Q) args s 0 0) s0 D ids ex jv_SH gj_85 85 [some (.ref (s0.heap.size + (t : Int).toNat)), some (jv_i a1), some (jv_i a2), some (jv_i a3), some (jv_i x4_61), some (jv_i x5_85), some (jv_i x6_9), none, none] [] := by
            intro x5_85 gj_85 h
            unfold wB_X2_solvedHour_85 at h
            refine jv_iincn C dX2_solvedHour_85 (Nat.lt_of_lt_of_eq (Nat.le_of_ble_eq_true rfl) hml) rfl (fun v6_85 ev6_85 => ?_)
            replace h := h v6_85 ev6_85
            refine jv_lset (ls' := [some (.ref (s0.heap.size + (t : Int).toNat)), some (jv_i a1), some (jv_i a2), some (jv_i a3), some (jv_i x4_61), some (jv_i x5_85), some (jv_i v6_85), none, none]) rfl ?_
            refine jv_goto (tgt := 9) C dX2_solvedHour_88 rfl ?_
            exact jv_less (ls' := [some (.ref (s0.heap.size + (t : Int).toNat)), some (jv_i a1), some (jv_i a2), some (jv_i a3), some (jv_i x4_61), some (jv_i x5_85), some (jv_i v6_85), none, none]) ⟨rfl, ⟨rfl, ⟨rfl, ⟨rfl, ⟨rfl, ⟨rfl, ⟨rfl, trivial⟩⟩⟩⟩⟩⟩⟩ (hK9 _ _ _ _ h)
          obtain ⟨hr_63, h1_63, h2_63⟩ := h
          refine jv_if_ne (tgt := 85) C hr_63 dX2_solvedHour_63 rfl (fun hc_63 => ?_) (fun hc_63 => ?_)
          · replace h := h1_63 hc_63
            exact jv_less (ls' := [some (.ref (s0.heap.size + (t : Int).toNat)), some (jv_i a1), some (jv_i a2), some (jv_i a3), some (jv_i x4_61), some (jv_i x5_9), some (jv_i x6_9), none, none]) ⟨rfl, ⟨rfl, ⟨rfl, ⟨rfl, ⟨rfl, ⟨rfl, ⟨rfl, trivial⟩⟩⟩⟩⟩⟩⟩ (hJ85 _ _ h)
          · replace h := h2_63 hc_63
            refine jv_iload C dX2_solvedHour_66 rfl ?_
            refine jv_aload_n C dX2_solvedHour_68 rfl ?_
            refine jv_getr C kf_X2_9 ht.1 rfl dX2_solvedHour_69 ?_
            refine jv_iload_n C dX2_solvedHour_72 rfl ?_
            refine jv_bipush C dX2_solvedHour_73 (by decide +kernel) ?_
            refine jv_imul C dX2_solvedHour_75 ?_
            refine jv_iload C dX2_solvedHour_76 rfl ?_
            refine jv_iadd C dX2_solvedHour_78 ?_
            obtain ⟨hb_79, h⟩ := h
            refine jv_iald C ht.2.1 rfl hb_79 dX2_solvedHour_79 ?_
            obtain ⟨hr_80, h⟩ := h
            refine jv_mmax C hr_80.1 hr_80.2 kw_X2_33 ks_max ki_Math kd_max ⟨rfl, rfl⟩ ⟨rfl, rfl⟩ dX2_solvedHour_80 ?_
            refine jv_top (fun v5_83 ev5_83 => ?_)
            replace h := h v5_83 ev5_83
            refine jv_istore (ls' := [some (.ref (s0.heap.size + (t : Int).toNat)), some (jv_i a1), some (jv_i a2), some (jv_i a3), some (jv_i x4_61), some (jv_i v5_83), some (jv_i x6_9), some (jv_i y0_30), none]) C dX2_solvedHour_83 (Nat.lt_of_lt_of_eq (Nat.le_of_ble_eq_true rfl) hml) rfl ?_
            exact jv_less (ls' := [some (.ref (s0.heap.size + (t : Int).toNat)), some (jv_i a1), some (jv_i a2), some (jv_i a3), some (jv_i x4_61), some (jv_i v5_83), some (jv_i x6_9), none, none]) ⟨rfl, ⟨rfl, ⟨rfl, ⟨rfl, ⟨rfl, ⟨rfl, ⟨rfl, trivial⟩⟩⟩⟩⟩⟩⟩ (hJ85 _ _ h)
        obtain ⟨hr_55, h1_55, h2_55⟩ := h
        refine jv_if_eq (tgt := 61) C hr_55 dX2_solvedHour_55 rfl (fun hc_55 => ?_) (fun hc_55 => ?_)
        · replace h := h1_55 hc_55
          exact jv_less (ls' := [some (.ref (s0.heap.size + (t : Int).toNat)), some (jv_i a1), some (jv_i a2), some (jv_i a3), some (jv_i x4_9), some (jv_i x5_9), some (jv_i x6_9), some (jv_i y0_30), none]) ⟨rfl, ⟨rfl, ⟨rfl, ⟨rfl, ⟨rfl, ⟨rfl, ⟨rfl, ⟨rfl, trivial⟩⟩⟩⟩⟩⟩⟩⟩ (hJ61 _ _ h)
        · replace h := h2_55 hc_55
          refine jv_const C dX2_solvedHour_58 ?_
          refine jv_istore (ls' := [some (.ref (s0.heap.size + (t : Int).toNat)), some (jv_i a1), some (jv_i a2), some (jv_i a3), some (jv_i 1), some (jv_i x5_9), some (jv_i x6_9), some (jv_i y0_30), some (jv_i r_36)]) C dX2_solvedHour_59 (Nat.lt_of_lt_of_eq (Nat.le_of_ble_eq_true rfl) hml) rfl ?_
          exact jv_less (ls' := [some (.ref (s0.heap.size + (t : Int).toNat)), some (jv_i a1), some (jv_i a2), some (jv_i a3), some (jv_i 1), some (jv_i x5_9), some (jv_i x6_9), some (jv_i y0_30), none]) ⟨rfl, ⟨rfl, ⟨rfl, ⟨rfl, ⟨rfl, ⟨rfl, ⟨rfl, ⟨rfl, trivial⟩⟩⟩⟩⟩⟩⟩⟩ (hJ61 _ _ h)
      obtain ⟨hr_43, h1_43, h2_43⟩ := h
      refine jv_if_ne (tgt := 53) C hr_43 dX2_solvedHour_43 rfl (fun hc_43 => ?_) (fun hc_43 => ?_)
      · replace h := h1_43 hc_43
        exact jv_less (ls' := [some (.ref (s0.heap.size + (t : Int).toNat)), some (jv_i a1), some (jv_i a2), some (jv_i a3), some (jv_i x4_9), some (jv_i x5_9), some (jv_i x6_9), some (jv_i y0_30), some (jv_i r_36)]) ⟨rfl, ⟨rfl, ⟨rfl, ⟨rfl, ⟨rfl, ⟨rfl, ⟨rfl, ⟨rfl, ⟨rfl, trivial⟩⟩⟩⟩⟩⟩⟩⟩⟩ (hJ53 _ h)
      · replace h := h2_43 hc_43
        refine jv_iload C dX2_solvedHour_46 rfl ?_
        obtain ⟨hr_48, h1_48, h2_48⟩ := h
        refine jv_if_ne (tgt := 53) C hr_48 dX2_solvedHour_48 rfl (fun hc_48 => ?_) (fun hc_48 => ?_)
        · replace h := h1_48 hc_48
          exact jv_less (ls' := [some (.ref (s0.heap.size + (t : Int).toNat)), some (jv_i a1), some (jv_i a2), some (jv_i a3), some (jv_i x4_9), some (jv_i x5_9), some (jv_i x6_9), some (jv_i y0_30), some (jv_i r_36)]) ⟨rfl, ⟨rfl, ⟨rfl, ⟨rfl, ⟨rfl, ⟨rfl, ⟨rfl, ⟨rfl, ⟨rfl, trivial⟩⟩⟩⟩⟩⟩⟩⟩⟩ (hJ53 _ h)
        · replace h := h2_48 hc_48
          refine jv_const C dX2_solvedHour_51 ?_
          exact jv_iret C hr hlk ⟨_, rfl, h⟩ dX2_solvedHour_52 ⟨rfl, rfl⟩
    obtain ⟨hr_22, h1_22, h2_22⟩ := h
    refine jv_if_eq (tgt := 29) C hr_22 dX2_solvedHour_22 rfl (fun hc_22 => ?_) (fun hc_22 => ?_)
    · replace h := h1_22 hc_22
      refine jv_const C dX2_solvedHour_29 ?_
      exact jv_less (ls' := [some (.ref (s0.heap.size + (t : Int).toNat)), some (jv_i a1), some (jv_i a2), some (jv_i a3), some (jv_i x4_9), some (jv_i x5_9), some (jv_i x6_9), none, none]) ⟨rfl, ⟨rfl, ⟨rfl, ⟨rfl, ⟨rfl, ⟨rfl, ⟨rfl, trivial⟩⟩⟩⟩⟩⟩⟩ (hJ30 _ _ h)
    · replace h := h2_22 hc_22
      refine jv_const C dX2_solvedHour_25 ?_
      refine jv_goto (tgt := 30) C dX2_solvedHour_26 rfl ?_
      exact jv_less (ls' := [some (.ref (s0.heap.size + (t : Int).toNat)), some (jv_i a1), some (jv_i a2), some (jv_i a3), some (jv_i x4_9), some (jv_i x5_9), some (jv_i x6_9), none, none]) ⟨rfl, ⟨rfl, ⟨rfl, ⟨rfl, ⟨rfl, ⟨rfl, ⟨rfl, trivial⟩⟩⟩⟩⟩⟩⟩ (hJ30 _ _ h)

def wp_J9_floorDiv_7cf53 (a0 : Int) (a1 : Int) (Q : Int → jv_Mem → Prop) (g : jv_Mem) : Prop :=
  ((¬ Int32.ofInt a1 = 0) ∧ (∀ v2_3 : Int, v2_3 = jv_div a0 a1 → ((jv_r (jv_xor a0 a1)) ∧ (0 ≤ (jv_xor a0 a1) → Q v2_3 g) ∧ ((jv_xor a0 a1) < 0 → ((jv_r (v2_3 * a1) ∧ jv_r a0) ∧ ((v2_3 * a1) = a0 → Q v2_3 g) ∧ (¬ (v2_3 * a1) = a0 → Q (v2_3 - 1) g))))))
set_option maxHeartbeats 4000000 in
set_option maxRecDepth 100000 in
theorem M_J9_floorDiv_7cf53 {l : Launch} {s0 : State} {b0 : Addr} {D : va_G} {ids : Nat → ClassId} {ex : Option Nat} {g : jv_Mem} {a0 : Int} {a1 : Int} {Q : Int → jv_Mem → Prop} (h : wp_J9_floorDiv_7cf53 a0 a1 Q g) : jv_M l s0 b0 D ids yJ9_floorDiv_7cf53 cJ9_floorDiv_7cf53 3 (some .int) 0 0 0 0 ex jv_SH g [jv_i a0, jv_i a1] ex jv_SH (jv_qi Q) := by
  refine jv_M.ofF jv_plainFD rfl rfl (fun p e s m args below meth c C hml hr hlk hnm => ?_)
  replace C : jv_C p s m args c cJ9_floorDiv_7cf53 RJ9 s0 b0 D ids := C
  show jv_V p l e (jv_rm 0 0 0 0) s m args below meth c 0 0 (jv_ZM below s0 D ids ex jv_SH (jv_qi Q) args s 0 0) s0 D ids ex jv_SH g 0 [some (jv_i a0), some (jv_i a1), none] []
  unfold wp_J9_floorDiv_7cf53 at h
  refine jv_iload_n C dJ9_floorDiv_7cf53_0 rfl ?_
  refine jv_iload_n C dJ9_floorDiv_7cf53_1 rfl ?_
  obtain ⟨hz_2, h⟩ := h
  refine jv_idiv C hz_2 dJ9_floorDiv_7cf53_2 ?_
  refine jv_top (fun v2_3 ev2_3 => ?_)
  replace h := h v2_3 ev2_3
  refine jv_istore_n (ls' := [some (jv_i a0), some (jv_i a1), some (jv_i v2_3)]) C dJ9_floorDiv_7cf53_3 (Nat.lt_of_lt_of_eq (Nat.le_of_ble_eq_true rfl) hml) rfl ?_
  refine jv_iload_n C dJ9_floorDiv_7cf53_4 rfl ?_
  refine jv_iload_n C dJ9_floorDiv_7cf53_5 rfl ?_
  refine jv_ixor C dJ9_floorDiv_7cf53_6 ?_
  obtain ⟨hr_7, h1_7, h2_7⟩ := h
  refine jv_if_ge (tgt := 21) C hr_7 dJ9_floorDiv_7cf53_7 rfl (fun hc_7 => ?_) (fun hc_7 => ?_)
  · replace h := h1_7 hc_7
    refine jv_iload_n C dJ9_floorDiv_7cf53_21 rfl ?_
    exact jv_iret C hr hlk ⟨_, rfl, h⟩ dJ9_floorDiv_7cf53_22 ⟨rfl, rfl⟩
  · replace h := h2_7 hc_7
    refine jv_iload_n C dJ9_floorDiv_7cf53_10 rfl ?_
    refine jv_iload_n C dJ9_floorDiv_7cf53_11 rfl ?_
    refine jv_imul C dJ9_floorDiv_7cf53_12 ?_
    refine jv_iload_n C dJ9_floorDiv_7cf53_13 rfl ?_
    obtain ⟨hr_14, h1_14, h2_14⟩ := h
    refine jv_icmp_eq (tgt := 21) C hr_14.1 hr_14.2 dJ9_floorDiv_7cf53_14 rfl (fun hc_14 => ?_) (fun hc_14 => ?_)
    · replace h := h1_14 hc_14
      refine jv_iload_n C dJ9_floorDiv_7cf53_21 rfl ?_
      exact jv_iret C hr hlk ⟨_, rfl, h⟩ dJ9_floorDiv_7cf53_22 ⟨rfl, rfl⟩
    · replace h := h2_14 hc_14
      refine jv_iload_n C dJ9_floorDiv_7cf53_17 rfl ?_
      refine jv_const C dJ9_floorDiv_7cf53_18 ?_
      refine jv_isub C dJ9_floorDiv_7cf53_19 ?_
      exact jv_iret C hr hlk ⟨_, rfl, h⟩ dJ9_floorDiv_7cf53_20 ⟨rfl, rfl⟩

def wp_X2_dayIndex (t : Int) (a1 : Int) (Q : Int → jv_Mem → Prop) (g : jv_Mem) : Prop :=
  (wp_J9_floorDiv_7cf53 (a1 + (g t 2)) 24 (fun (r_8 : Int) (g_8 : jv_Mem) => Q (r_8 - ((-1))) g_8) g)
set_option maxHeartbeats 4000000 in
set_option maxRecDepth 100000 in
theorem M_X2_dayIndex {l : Launch} {s0 : State} {b0 : Addr} {D : va_G} {ids : Nat → ClassId} {ex : Option Nat} {g : jv_Mem} {t : Int} {a1 : Int} {Q : Int → jv_Mem → Prop} (ht : jv_isPg t) (h : wp_X2_dayIndex t a1 Q g) : jv_M l s0 b0 D ids yX2_dayIndex cX2_dayIndex 2 (some .int) 1 22 0 0 ex jv_SH g [.ref (s0.heap.size + (t : Int).toNat), jv_i a1] ex jv_SH (jv_qi Q) := by
  refine jv_M.of (by decide +kernel) rfl rfl (fun p e s m args below meth c C hml hr hlk hnm => ?_)
  replace C : jv_C p s m args c cX2_dayIndex RX2 s0 b0 D ids := C
  show jv_V p l e (jv_rm 1 22 0 0) s m args below meth c 0 0 (jv_ZM below s0 D ids ex jv_SH (jv_qi Q) args s 0 0) s0 D ids ex jv_SH g 0 [some (.ref (s0.heap.size + (t : Int).toNat)), some (jv_i a1)] []
  unfold wp_X2_dayIndex at h
  refine jv_iload_n C dX2_dayIndex_0 rfl ?_
  refine jv_aload_n C dX2_dayIndex_1 rfl ?_
  refine jv_geti C kf_X2_19 ht.1 rfl dX2_dayIndex_2 ?_
  refine jv_iadd C dX2_dayIndex_5 ?_
  refine jv_bipush C dX2_dayIndex_6 (by decide +kernel) ?_
  refine jv_callSi C (M_J9_floorDiv_7cf53 h) kw_X2_47 rfl ⟨rfl, rfl⟩ (st := []) rfl rfl ⟨rfl, rfl⟩ dX2_dayIndex_8 (fun r_8 g_8 h => ?_)
  refine jv_const C dX2_dayIndex_11 ?_
  refine jv_isub C dX2_dayIndex_12 ?_
  exact jv_iret C hr hlk ⟨_, rfl, h⟩ dX2_dayIndex_13 ⟨rfl, rfl⟩

def wp_X2_countIfSolved (t : Int) (a1 : Int) (a2 : Int) (a3 : Int) (Q : jv_Mem → Prop) (g : jv_Mem) : Prop :=
  (wp_X2_solvedHour t a1 a2 a3 (fun (r_4 : Int) (g_4 : jv_Mem) => ((jv_r r_4) ∧ (r_4 = ((-1)) → Q g_4) ∧ (¬ r_4 = ((-1)) → (wp_X2_dayIndex t r_4 (fun (r_22 : Int) (g_22 : jv_Mem) => (((0 : Int) ≤ r_22 ∧ r_22 < (1252 : Int)) ∧ (∀ g_26 : jv_Mem, g_26 = jv_up g_22 (t + 2) r_22 1 → Q g_26))) g_4)))) g)
set_option maxHeartbeats 4000000 in
set_option maxRecDepth 100000 in
theorem M_X2_countIfSolved {l : Launch} {s0 : State} {b0 : Addr} {D : va_G} {ids : Nat → ClassId} {ex : Option Nat} {g : jv_Mem} {t : Int} {a1 : Int} {a2 : Int} {a3 : Int} {Q : jv_Mem → Prop} (ht : jv_isPg t) (h : wp_X2_countIfSolved t a1 a2 a3 Q g) : jv_M l s0 b0 D ids yX2_countIfSolved cX2_countIfSolved 5 none 2 50 0 0 ex jv_SH g [.ref (s0.heap.size + (t : Int).toNat), jv_i a1, jv_i a2, jv_i a3] ex jv_SH (jv_qv Q) := by
  refine jv_M.of (by decide +kernel) rfl rfl (fun p e s m args below meth c C hml hr hlk hnm => ?_)
  replace C : jv_C p s m args c cX2_countIfSolved RX2 s0 b0 D ids := C
  show jv_V p l e (jv_rm 2 50 0 0) s m args below meth c 0 0 (jv_ZM below s0 D ids ex jv_SH (jv_qv Q) args s 0 0) s0 D ids ex jv_SH g 0 [some (.ref (s0.heap.size + (t : Int).toNat)), some (jv_i a1), some (jv_i a2), some (jv_i a3), none] []
  unfold wp_X2_countIfSolved at h
  refine jv_aload_n C dX2_countIfSolved_0 rfl ?_
  refine jv_iload_n C dX2_countIfSolved_1 rfl ?_
  refine jv_iload_n C dX2_countIfSolved_2 rfl ?_
  refine jv_iload_n C dX2_countIfSolved_3 rfl ?_
  refine jv_callVi C (M_X2_solvedHour ht h) kw_X2_39 ht.1 rfl rfl ⟨rfl, rfl⟩ (st := []) rfl rfl ⟨rfl, rfl⟩ dX2_countIfSolved_4 (fun r_4 g_4 h => ?_)
  refine jv_istore (ls' := [some (.ref (s0.heap.size + (t : Int).toNat)), some (jv_i a1), some (jv_i a2), some (jv_i a3), some (jv_i r_4)]) C dX2_countIfSolved_7 (Nat.lt_of_lt_of_eq (Nat.le_of_ble_eq_true rfl) hml) rfl ?_
  refine jv_iload C dX2_countIfSolved_9 rfl ?_
  refine jv_const C dX2_countIfSolved_11 ?_
  obtain ⟨hr_12, h1_12, h2_12⟩ := h
  refine jv_icmp_eq (tgt := 27) C hr_12 ⟨by decide, by decide⟩ dX2_countIfSolved_12 rfl (fun hc_12 => ?_) (fun hc_12 => ?_)
  · replace h := h1_12 hc_12
    exact jv_vret C hr hlk ⟨rfl, h⟩ dX2_countIfSolved_27 ⟨rfl, rfl⟩
  · replace h := h2_12 hc_12
    refine jv_aload_n C dX2_countIfSolved_15 rfl ?_
    refine jv_getr C kf_X2_15 ht.1 rfl dX2_countIfSolved_16 ?_
    refine jv_aload_n C dX2_countIfSolved_19 rfl ?_
    refine jv_iload C dX2_countIfSolved_20 rfl ?_
    refine jv_callVi C (M_X2_dayIndex ht h) kw_X2_43 ht.1 rfl rfl ⟨rfl, rfl⟩ (st := [.ref (s0.heap.size + (t + 2 : Int).toNat)]) rfl rfl ⟨rfl, rfl⟩ dX2_countIfSolved_22 (fun r_22 g_22 h => ?_)
    refine jv_const C dX2_countIfSolved_25 ?_
    obtain ⟨hb_26, h⟩ := h
    refine jv_zast C ht.2.2 rfl (Or.inr rfl) hb_26 dX2_countIfSolved_26 (jv_gm (fun g_26 eg_26 => ?_))
    replace h := h g_26 eg_26
    exact jv_vret C hr hlk ⟨rfl, h⟩ dX2_countIfSolved_27 ⟨rfl, rfl⟩

def wB_X2_daysInARow_24 (t : Int) (Q : Int → jv_Mem → Prop) (y0_24 : Int) (gj_24 : jv_Mem) : Prop :=
  jv_lp2 (fun (K26 : Int → Int → jv_Mem → Prop) (x3_26 x4_26 : Int) (gl_26 : jv_Mem) => ((jv_r x4_26) ∧ (x4_26 < 0 → Q x3_26 gl_26) ∧ (0 ≤ x4_26 → (((0 : Int) ≤ x4_26 ∧ x4_26 < (1252 : Int)) ∧ ((jv_r (gl_26 (t + 2) x4_26)) ∧ ((gl_26 (t + 2) x4_26) = 0 → Q x3_26 gl_26) ∧ (¬ (gl_26 (t + 2) x4_26) = 0 → (∀ v3_41 : Int, v3_41 = x3_26 + 1 → (∀ v4_44 : Int, v4_44 = x4_26 + (-1) → K26 v3_41 v4_44 gl_26)))))))) 0 y0_24 gj_24
def wp_X2_daysInARow (t : Int) (a1 : Int) (Q : Int → jv_Mem → Prop) (g : jv_Mem) : Prop :=
  (wp_X2_dayIndex t a1 (fun (r_2 : Int) (g_2 : jv_Mem) => (((0 : Int) ≤ r_2 ∧ r_2 < (1252 : Int)) ∧ ((jv_r (g_2 (t + 2) r_2)) ∧ ((g_2 (t + 2) r_2) = 0 → wB_X2_daysInARow_24 t Q (r_2 - 1) g_2) ∧ (¬ (g_2 (t + 2) r_2) = 0 → wB_X2_daysInARow_24 t Q r_2 g_2)))) g)
set_option maxHeartbeats 4000000 in
set_option maxRecDepth 100000 in
theorem M_X2_daysInARow {l : Launch} {s0 : State} {b0 : Addr} {D : va_G} {ids : Nat → ClassId} {ex : Option Nat} {g : jv_Mem} {t : Int} {a1 : Int} {Q : Int → jv_Mem → Prop} (ht : jv_isPg t) (h : wp_X2_daysInARow t a1 Q g) : jv_M l s0 b0 D ids yX2_daysInARow cX2_daysInARow 5 (some .int) 2 43 0 0 ex jv_SH g [.ref (s0.heap.size + (t : Int).toNat), jv_i a1] ex jv_SH (jv_qi Q) := by
  refine jv_M.of (by decide +kernel) rfl rfl (fun p e s m args below meth c C hml hr hlk hnm => ?_)
  replace C : jv_C p s m args c cX2_daysInARow RX2 s0 b0 D ids := C
  show jv_V p l e (jv_rm 2 43 0 0) s m args below meth c 0 0 (jv_ZM below s0 D ids ex jv_SH (jv_qi Q) args s 0 0) s0 D ids ex jv_SH g 0 [some (.ref (s0.heap.size + (t : Int).toNat)), some (jv_i a1), none, none, none] []
  unfold wp_X2_daysInARow at h
  refine jv_aload_n C dX2_daysInARow_0 rfl ?_
  refine jv_iload_n C dX2_daysInARow_1 rfl ?_
  refine jv_callVi C (M_X2_dayIndex ht h) kw_X2_43 ht.1 rfl rfl ⟨rfl, rfl⟩ (st := []) rfl rfl ⟨rfl, rfl⟩ dX2_daysInARow_2 (fun r_2 g_2 h => ?_)
  refine jv_istore_n (ls' := [some (.ref (s0.heap.size + (t : Int).toNat)), some (jv_i a1), some (jv_i r_2), none, none]) C dX2_daysInARow_5 (Nat.lt_of_lt_of_eq (Nat.le_of_ble_eq_true rfl) hml) rfl ?_
  refine jv_const C dX2_daysInARow_6 ?_
  refine jv_istore_n (ls' := [some (.ref (s0.heap.size + (t : Int).toNat)), some (jv_i a1), some (jv_i r_2), some (jv_i 0), none]) C dX2_daysInARow_7 (Nat.lt_of_lt_of_eq (Nat.le_of_ble_eq_true rfl) hml) rfl ?_
  refine jv_aload_n C dX2_daysInARow_8 rfl ?_
  refine jv_getr C kf_X2_15 ht.1 rfl dX2_daysInARow_9 ?_
  refine jv_iload_n C dX2_daysInARow_12 rfl ?_
  obtain ⟨hb_13, h⟩ := h
  refine jv_zald C ht.2.2 rfl hb_13 dX2_daysInARow_13 ?_
  have hJ24 : ∀ (y0_24 : Int) (gj_24 : jv_Mem), wB_X2_daysInARow_24 t Q y0_24 gj_24 → jv_V p l e (jv_rm 2 43 0 0) s m args below meth c 0 0 (jv_ZM below s0 D ids ex jv_SH (jv_qi Q) args s 0 0) s0 D ids ex jv_SH gj_24 24 [some (.ref (s0.heap.size + (t : Int).toNat)), none, none, some (jv_i 0), none] [jv_i y0_24] := by
    intro y0_24 gj_24 h
    unfold wB_X2_daysInARow_24 at h
    refine jv_istore (ls' := [some (.ref (s0.heap.size + (t : Int).toNat)), none, none, some (jv_i 0), some (jv_i y0_24)]) C dX2_daysInARow_24 (Nat.lt_of_lt_of_eq (Nat.le_of_ble_eq_true rfl) hml) rfl ?_
    refine jv_less (ls' := [some (.ref (s0.heap.size + (t : Int).toNat)), none, none, some (jv_i 0), some (jv_i y0_24)]) ⟨rfl, ⟨rfl, ⟨rfl, trivial⟩⟩⟩ ?_
    refine jv_lp2.use h (fun (x3_26 x4_26 : Int) (gl_26 : jv_Mem) => jv_V p l e (jv_rm 2 43 0 0) s m args below meth c 0 0 (jv_ZM below s0 D ids ex jv_SH (jv_qi Q) args s 0 0) s0 D ids ex jv_SH gl_26 26 [some (.ref (s0.heap.size + (t : Int).toNat)), none, none, some (jv_i x3_26), some (jv_i x4_26)] []) ?_
    intro K26 hK26 x3_26 x4_26 gl_26 h
    refine jv_iload C dX2_daysInARow_26 rfl ?_
    obtain ⟨hr_28, h1_28, h2_28⟩ := h
    refine jv_if_lt (tgt := 50) C hr_28 dX2_daysInARow_28 rfl (fun hc_28 => ?_) (fun hc_28 => ?_)
    · replace h := h1_28 hc_28
      refine jv_iload_n C dX2_daysInARow_50 rfl ?_
      exact jv_iret C hr hlk ⟨_, rfl, h⟩ dX2_daysInARow_51 ⟨rfl, rfl⟩
    · replace h := h2_28 hc_28
      refine jv_aload_n C dX2_daysInARow_31 rfl ?_
      refine jv_getr C kf_X2_15 ht.1 rfl dX2_daysInARow_32 ?_
      refine jv_iload C dX2_daysInARow_35 rfl ?_
      obtain ⟨hb_37, h⟩ := h
      refine jv_zald C ht.2.2 rfl hb_37 dX2_daysInARow_37 ?_
      obtain ⟨hr_38, h1_38, h2_38⟩ := h
      refine jv_if_eq (tgt := 50) C hr_38 dX2_daysInARow_38 rfl (fun hc_38 => ?_) (fun hc_38 => ?_)
      · replace h := h1_38 hc_38
        refine jv_iload_n C dX2_daysInARow_50 rfl ?_
        exact jv_iret C hr hlk ⟨_, rfl, h⟩ dX2_daysInARow_51 ⟨rfl, rfl⟩
      · replace h := h2_38 hc_38
        refine jv_iincn C dX2_daysInARow_41 (Nat.lt_of_lt_of_eq (Nat.le_of_ble_eq_true rfl) hml) rfl (fun v3_41 ev3_41 => ?_)
        replace h := h v3_41 ev3_41
        refine jv_lset (ls' := [some (.ref (s0.heap.size + (t : Int).toNat)), none, none, some (jv_i v3_41), some (jv_i x4_26)]) rfl ?_
        refine jv_iincn C dX2_daysInARow_44 (Nat.lt_of_lt_of_eq (Nat.le_of_ble_eq_true rfl) hml) rfl (fun v4_44 ev4_44 => ?_)
        replace h := h v4_44 ev4_44
        refine jv_lset (ls' := [some (.ref (s0.heap.size + (t : Int).toNat)), none, none, some (jv_i v3_41), some (jv_i v4_44)]) rfl ?_
        refine jv_goto (tgt := 26) C dX2_daysInARow_47 rfl ?_
        exact jv_less (ls' := [some (.ref (s0.heap.size + (t : Int).toNat)), none, none, some (jv_i v3_41), some (jv_i v4_44)]) ⟨rfl, ⟨rfl, ⟨rfl, trivial⟩⟩⟩ (hK26 _ _ _ h)
  obtain ⟨hr_14, h1_14, h2_14⟩ := h
  refine jv_if_eq (tgt := 21) C hr_14 dX2_daysInARow_14 rfl (fun hc_14 => ?_) (fun hc_14 => ?_)
  · replace h := h1_14 hc_14
    refine jv_iload_n C dX2_daysInARow_21 rfl ?_
    refine jv_const C dX2_daysInARow_22 ?_
    refine jv_isub C dX2_daysInARow_23 ?_
    exact jv_less (ls' := [some (.ref (s0.heap.size + (t : Int).toNat)), none, none, some (jv_i 0), none]) ⟨rfl, ⟨rfl, trivial⟩⟩ (hJ24 _ _ h)
  · replace h := h2_14 hc_14
    refine jv_iload_n C dX2_daysInARow_17 rfl ?_
    refine jv_goto (tgt := 24) C dX2_daysInARow_18 rfl ?_
    exact jv_less (ls' := [some (.ref (s0.heap.size + (t : Int).toNat)), none, none, some (jv_i 0), none]) ⟨rfl, ⟨rfl, trivial⟩⟩ (hJ24 _ _ h)

def wp_X3_appear (t : Int) (a1 : Int) (Q : jv_Mem → Prop) (g : jv_Mem) : Prop :=
  (∀ g_2 : jv_Mem, g_2 = jv_up g t 2 a1 → Q g_2)
set_option maxHeartbeats 4000000 in
set_option maxRecDepth 100000 in
theorem M_X3_appear {l : Launch} {s0 : State} {b0 : Addr} {D : va_G} {ids : Nat → ClassId} {ex : Option Nat} {g : jv_Mem} {t : Int} {a1 : Int} {Q : jv_Mem → Prop} (ht : jv_isPz t) (h : wp_X3_appear t a1 Q g) : jv_M l s0 b0 D ids yX3_appear cX3_appear 2 none 0 0 0 0 ex jv_SH g [.ref (s0.heap.size + (t : Int).toNat), jv_i a1] ex jv_SH (jv_qv Q) := by
  refine jv_M.of (by decide +kernel) rfl rfl (fun p e s m args below meth c C hml hr hlk hnm => ?_)
  replace C : jv_C p s m args c cX3_appear RX3 s0 b0 D ids := C
  show jv_V p l e (jv_rm 0 0 0 0) s m args below meth c 0 0 (jv_ZM below s0 D ids ex jv_SH (jv_qv Q) args s 0 0) s0 D ids ex jv_SH g 0 [some (.ref (s0.heap.size + (t : Int).toNat)), some (jv_i a1)] []
  unfold wp_X3_appear at h
  refine jv_aload_n C dX3_appear_0 rfl ?_
  refine jv_iload_n C dX3_appear_1 rfl ?_
  refine jv_puti C kf_X3_18 ht.1 rfl dX3_appear_2 (jv_gm (fun g_2 eg_2 => ?_))
  replace h := h g_2 eg_2
  exact jv_vret C hr hlk ⟨rfl, h⟩ dX3_appear_5 ⟨rfl, rfl⟩

def wp_X3_hourOfAppearing (t : Int) (Q : Int → jv_Mem → Prop) (g : jv_Mem) : Prop :=
  Q (g t 2) g
set_option maxHeartbeats 4000000 in
set_option maxRecDepth 100000 in
theorem M_X3_hourOfAppearing {l : Launch} {s0 : State} {b0 : Addr} {D : va_G} {ids : Nat → ClassId} {ex : Option Nat} {g : jv_Mem} {t : Int} {Q : Int → jv_Mem → Prop} (ht : jv_isPz t) (h : wp_X3_hourOfAppearing t Q g) : jv_M l s0 b0 D ids yX3_hourOfAppearing cX3_hourOfAppearing 1 (some .int) 0 0 0 0 ex jv_SH g [.ref (s0.heap.size + (t : Int).toNat)] ex jv_SH (jv_qi Q) := by
  refine jv_M.of (by decide +kernel) rfl rfl (fun p e s m args below meth c C hml hr hlk hnm => ?_)
  replace C : jv_C p s m args c cX3_hourOfAppearing RX3 s0 b0 D ids := C
  show jv_V p l e (jv_rm 0 0 0 0) s m args below meth c 0 0 (jv_ZM below s0 D ids ex jv_SH (jv_qi Q) args s 0 0) s0 D ids ex jv_SH g 0 [some (.ref (s0.heap.size + (t : Int).toNat))] []
  unfold wp_X3_hourOfAppearing at h
  refine jv_aload_n C dX3_hourOfAppearing_0 rfl ?_
  refine jv_geti C kf_X3_18 ht.1 rfl dX3_hourOfAppearing_1 ?_
  exact jv_iret C hr hlk ⟨_, rfl, h⟩ dX3_hourOfAppearing_4 ⟨rfl, rfl⟩

def wp_X3_letter (t : Int) (a1 : Int) (Q : Int → jv_Mem → Prop) (g : jv_Mem) : Prop :=
  (((0 : Int) ≤ a1 ∧ a1 < (9 : Int)) ∧ Q (g (t + 1) a1) g)
set_option maxHeartbeats 4000000 in
set_option maxRecDepth 100000 in
theorem M_X3_letter {l : Launch} {s0 : State} {b0 : Addr} {D : va_G} {ids : Nat → ClassId} {ex : Option Nat} {g : jv_Mem} {t : Int} {a1 : Int} {Q : Int → jv_Mem → Prop} (ht : jv_isPz t) (h : wp_X3_letter t a1 Q g) : jv_M l s0 b0 D ids yX3_letter cX3_letter 2 (some .int) 0 0 0 0 ex jv_SH g [.ref (s0.heap.size + (t : Int).toNat), jv_i a1] ex jv_SH (jv_qi Q) := by
  refine jv_M.of (by decide +kernel) rfl rfl (fun p e s m args below meth c C hml hr hlk hnm => ?_)
  replace C : jv_C p s m args c cX3_letter RX3 s0 b0 D ids := C
  show jv_V p l e (jv_rm 0 0 0 0) s m args below meth c 0 0 (jv_ZM below s0 D ids ex jv_SH (jv_qi Q) args s 0 0) s0 D ids ex jv_SH g 0 [some (.ref (s0.heap.size + (t : Int).toNat)), some (jv_i a1)] []
  unfold wp_X3_letter at h
  refine jv_aload_n C dX3_letter_0 rfl ?_
  refine jv_getr C kf_X3_9 ht.1 rfl dX3_letter_1 ?_
  refine jv_iload_n C dX3_letter_4 rfl ?_
  obtain ⟨hb_5, h⟩ := h
  refine jv_iald C ht.2.1 rfl hb_5 dX3_letter_5 ?_
  exact jv_iret C hr hlk ⟨_, rfl, h⟩ dX3_letter_6 ⟨rfl, rfl⟩

def wp_X3_setLetter (t : Int) (a1 : Int) (a2 : Int) (Q : jv_Mem → Prop) (g : jv_Mem) : Prop :=
  (((0 : Int) ≤ a1 ∧ a1 < (9 : Int)) ∧ (∀ g_6 : jv_Mem, g_6 = jv_up g (t + 1) a1 a2 → Q g_6))
set_option maxHeartbeats 4000000 in
set_option maxRecDepth 100000 in
theorem M_X3_setLetter {l : Launch} {s0 : State} {b0 : Addr} {D : va_G} {ids : Nat → ClassId} {ex : Option Nat} {g : jv_Mem} {t : Int} {a1 : Int} {a2 : Int} {Q : jv_Mem → Prop} (ht : jv_isPz t) (h : wp_X3_setLetter t a1 a2 Q g) : jv_M l s0 b0 D ids yX3_setLetter cX3_setLetter 3 none 0 0 0 0 ex jv_SH g [.ref (s0.heap.size + (t : Int).toNat), jv_i a1, jv_i a2] ex jv_SH (jv_qv Q) := by
  refine jv_M.of (by decide +kernel) rfl rfl (fun p e s m args below meth c C hml hr hlk hnm => ?_)
  replace C : jv_C p s m args c cX3_setLetter RX3 s0 b0 D ids := C
  show jv_V p l e (jv_rm 0 0 0 0) s m args below meth c 0 0 (jv_ZM below s0 D ids ex jv_SH (jv_qv Q) args s 0 0) s0 D ids ex jv_SH g 0 [some (.ref (s0.heap.size + (t : Int).toNat)), some (jv_i a1), some (jv_i a2)] []
  unfold wp_X3_setLetter at h
  refine jv_aload_n C dX3_setLetter_0 rfl ?_
  refine jv_getr C kf_X3_9 ht.1 rfl dX3_setLetter_1 ?_
  refine jv_iload_n C dX3_setLetter_4 rfl ?_
  refine jv_iload_n C dX3_setLetter_5 rfl ?_
  obtain ⟨hb_6, h⟩ := h
  refine jv_iast C ht.2.1 rfl hb_6 dX3_setLetter_6 (jv_gm (fun g_6 eg_6 => ?_))
  replace h := h g_6 eg_6
  exact jv_vret C hr hlk ⟨rfl, h⟩ dX3_setLetter_7 ⟨rfl, rfl⟩

def wp_X3_clueNumber (t : Int) (a1 : Int) (Q : Int → jv_Mem → Prop) (g : jv_Mem) : Prop :=
  (((0 : Int) ≤ a1 ∧ a1 < (6 : Int)) ∧ Q (g (t + 2) a1) g)
set_option maxHeartbeats 4000000 in
set_option maxRecDepth 100000 in
theorem M_X3_clueNumber {l : Launch} {s0 : State} {b0 : Addr} {D : va_G} {ids : Nat → ClassId} {ex : Option Nat} {g : jv_Mem} {t : Int} {a1 : Int} {Q : Int → jv_Mem → Prop} (ht : jv_isPz t) (h : wp_X3_clueNumber t a1 Q g) : jv_M l s0 b0 D ids yX3_clueNumber cX3_clueNumber 2 (some .int) 0 0 0 0 ex jv_SH g [.ref (s0.heap.size + (t : Int).toNat), jv_i a1] ex jv_SH (jv_qi Q) := by
  refine jv_M.of (by decide +kernel) rfl rfl (fun p e s m args below meth c C hml hr hlk hnm => ?_)
  replace C : jv_C p s m args c cX3_clueNumber RX3 s0 b0 D ids := C
  show jv_V p l e (jv_rm 0 0 0 0) s m args below meth c 0 0 (jv_ZM below s0 D ids ex jv_SH (jv_qi Q) args s 0 0) s0 D ids ex jv_SH g 0 [some (.ref (s0.heap.size + (t : Int).toNat)), some (jv_i a1)] []
  unfold wp_X3_clueNumber at h
  refine jv_aload_n C dX3_clueNumber_0 rfl ?_
  refine jv_getr C kf_X3_15 ht.1 rfl dX3_clueNumber_1 ?_
  refine jv_iload_n C dX3_clueNumber_4 rfl ?_
  obtain ⟨hb_5, h⟩ := h
  refine jv_iald C ht.2.2 rfl hb_5 dX3_clueNumber_5 ?_
  exact jv_iret C hr hlk ⟨_, rfl, h⟩ dX3_clueNumber_6 ⟨rfl, rfl⟩

def wp_X3_setClue (t : Int) (a1 : Int) (a2 : Int) (Q : jv_Mem → Prop) (g : jv_Mem) : Prop :=
  (((0 : Int) ≤ a1 ∧ a1 < (6 : Int)) ∧ (∀ g_6 : jv_Mem, g_6 = jv_up g (t + 2) a1 a2 → Q g_6))
set_option maxHeartbeats 4000000 in
set_option maxRecDepth 100000 in
theorem M_X3_setClue {l : Launch} {s0 : State} {b0 : Addr} {D : va_G} {ids : Nat → ClassId} {ex : Option Nat} {g : jv_Mem} {t : Int} {a1 : Int} {a2 : Int} {Q : jv_Mem → Prop} (ht : jv_isPz t) (h : wp_X3_setClue t a1 a2 Q g) : jv_M l s0 b0 D ids yX3_setClue cX3_setClue 3 none 0 0 0 0 ex jv_SH g [.ref (s0.heap.size + (t : Int).toNat), jv_i a1, jv_i a2] ex jv_SH (jv_qv Q) := by
  refine jv_M.of (by decide +kernel) rfl rfl (fun p e s m args below meth c C hml hr hlk hnm => ?_)
  replace C : jv_C p s m args c cX3_setClue RX3 s0 b0 D ids := C
  show jv_V p l e (jv_rm 0 0 0 0) s m args below meth c 0 0 (jv_ZM below s0 D ids ex jv_SH (jv_qv Q) args s 0 0) s0 D ids ex jv_SH g 0 [some (.ref (s0.heap.size + (t : Int).toNat)), some (jv_i a1), some (jv_i a2)] []
  unfold wp_X3_setClue at h
  refine jv_aload_n C dX3_setClue_0 rfl ?_
  refine jv_getr C kf_X3_15 ht.1 rfl dX3_setClue_1 ?_
  refine jv_iload_n C dX3_setClue_4 rfl ?_
  refine jv_iload_n C dX3_setClue_5 rfl ?_
  obtain ⟨hb_6, h⟩ := h
  refine jv_iast C ht.2.2 rfl hb_6 dX3_setClue_6 (jv_gm (fun g_6 eg_6 => ?_))
  replace h := h g_6 eg_6
  exact jv_vret C hr hlk ⟨rfl, h⟩ dX3_setClue_7 ⟨rfl, rfl⟩

def wp_X3_isWrong (t : Int) (a1 : Int) (Q : Int → jv_Mem → Prop) (g : jv_Mem) : Prop :=
  ((jv_r (jv_and (jv_shr (g t 3) a1) 1)) ∧ ((jv_and (jv_shr (g t 3) a1) 1) = 0 → Q 0 g) ∧ (¬ (jv_and (jv_shr (g t 3) a1) 1) = 0 → Q 1 g))
set_option maxHeartbeats 4000000 in
set_option maxRecDepth 100000 in
theorem M_X3_isWrong {l : Launch} {s0 : State} {b0 : Addr} {D : va_G} {ids : Nat → ClassId} {ex : Option Nat} {g : jv_Mem} {t : Int} {a1 : Int} {Q : Int → jv_Mem → Prop} (ht : jv_isPz t) (h : wp_X3_isWrong t a1 Q g) : jv_M l s0 b0 D ids yX3_isWrong cX3_isWrong 2 (some .boolean) 0 0 0 0 ex jv_SH g [.ref (s0.heap.size + (t : Int).toNat), jv_i a1] ex jv_SH (jv_qi Q) := by
  refine jv_M.of (by decide +kernel) rfl rfl (fun p e s m args below meth c C hml hr hlk hnm => ?_)
  replace C : jv_C p s m args c cX3_isWrong RX3 s0 b0 D ids := C
  show jv_V p l e (jv_rm 0 0 0 0) s m args below meth c 0 0 (jv_ZM below s0 D ids ex jv_SH (jv_qi Q) args s 0 0) s0 D ids ex jv_SH g 0 [some (.ref (s0.heap.size + (t : Int).toNat)), some (jv_i a1)] []
  unfold wp_X3_isWrong at h
  refine jv_aload_n C dX3_isWrong_0 rfl ?_
  refine jv_geti C kf_X3_22 ht.1 rfl dX3_isWrong_1 ?_
  refine jv_iload_n C dX3_isWrong_4 rfl ?_
  refine jv_ishr C dX3_isWrong_5 ?_
  refine jv_const C dX3_isWrong_6 ?_
  refine jv_iand C dX3_isWrong_7 ?_
  obtain ⟨hr_8, h1_8, h2_8⟩ := h
  refine jv_if_eq (tgt := 15) C hr_8 dX3_isWrong_8 rfl (fun hc_8 => ?_) (fun hc_8 => ?_)
  · replace h := h1_8 hc_8
    refine jv_const C dX3_isWrong_15 ?_
    exact jv_zret C hr hlk rfl ⟨_, rfl, h⟩ dX3_isWrong_16 ⟨rfl, rfl⟩
  · replace h := h2_8 hc_8
    refine jv_const C dX3_isWrong_11 ?_
    refine jv_goto (tgt := 16) C dX3_isWrong_12 rfl ?_
    exact jv_zret C hr hlk rfl ⟨_, rfl, h⟩ dX3_isWrong_16 ⟨rfl, rfl⟩

def wp_X8_cellOf (a0 : Int) (a1 : Int) (Q : Int → jv_Mem → Prop) (g : jv_Mem) : Prop :=
  ((jv_r a0) ∧ (3 ≤ a0 → Q (((a1 * 3) + a0) - 3) g) ∧ (a0 < 3 → Q ((a0 * 3) + a1) g))
set_option maxHeartbeats 4000000 in
set_option maxRecDepth 100000 in
theorem M_X8_cellOf {l : Launch} {s0 : State} {b0 : Addr} {D : va_G} {ids : Nat → ClassId} {ex : Option Nat} {g : jv_Mem} {a0 : Int} {a1 : Int} {Q : Int → jv_Mem → Prop} (h : wp_X8_cellOf a0 a1 Q g) : jv_M l s0 b0 D ids yX8_cellOf cX8_cellOf 2 (some .int) 0 0 0 0 ex jv_SH g [jv_i a0, jv_i a1] ex jv_SH (jv_qi Q) := by
  refine jv_M.of (by decide +kernel) rfl rfl (fun p e s m args below meth c C hml hr hlk hnm => ?_)
  replace C : jv_C p s m args c cX8_cellOf RX8 s0 b0 D ids := C
  show jv_V p l e (jv_rm 0 0 0 0) s m args below meth c 0 0 (jv_ZM below s0 D ids ex jv_SH (jv_qi Q) args s 0 0) s0 D ids ex jv_SH g 0 [some (jv_i a0), some (jv_i a1)] []
  unfold wp_X8_cellOf at h
  refine jv_iload_n C dX8_cellOf_0 rfl ?_
  refine jv_const C dX8_cellOf_1 ?_
  obtain ⟨hr_2, h1_2, h2_2⟩ := h
  refine jv_icmp_ge (tgt := 13) C hr_2 ⟨by decide, by decide⟩ dX8_cellOf_2 rfl (fun hc_2 => ?_) (fun hc_2 => ?_)
  · replace h := h1_2 hc_2
    refine jv_iload_n C dX8_cellOf_13 rfl ?_
    refine jv_const C dX8_cellOf_14 ?_
    refine jv_imul C dX8_cellOf_15 ?_
    refine jv_iload_n C dX8_cellOf_16 rfl ?_
    refine jv_iadd C dX8_cellOf_17 ?_
    refine jv_const C dX8_cellOf_18 ?_
    refine jv_isub C dX8_cellOf_19 ?_
    exact jv_iret C hr hlk ⟨_, rfl, h⟩ dX8_cellOf_20 ⟨rfl, rfl⟩
  · replace h := h2_2 hc_2
    refine jv_iload_n C dX8_cellOf_5 rfl ?_
    refine jv_const C dX8_cellOf_6 ?_
    refine jv_imul C dX8_cellOf_7 ?_
    refine jv_iload_n C dX8_cellOf_8 rfl ?_
    refine jv_iadd C dX8_cellOf_9 ?_
    refine jv_goto (tgt := 20) C dX8_cellOf_10 rfl ?_
    exact jv_iret C hr hlk ⟨_, rfl, h⟩ dX8_cellOf_20 ⟨rfl, rfl⟩

def wp_X8_cellsOf (a0 : Int) (Q : Int → jv_Mem → Prop) (g : jv_Mem) : Prop :=
  jv_lp2 (fun (K4 : Int → Int → jv_Mem → Prop) (x1_4 x2_4 : Int) (gl_4 : jv_Mem) => ((jv_r x2_4) ∧ (3 ≤ x2_4 → Q x1_4 gl_4) ∧ (x2_4 < 3 → (wp_X8_cellOf a0 x2_4 (fun (r_13 : Int) (g_13 : jv_Mem) => (∀ v1_18 : Int, v1_18 = jv_or x1_4 (jv_shl 1 r_13) → (∀ v2_19 : Int, v2_19 = x2_4 + 1 → K4 v1_18 v2_19 g_13))) gl_4)))) 0 0 g
set_option maxHeartbeats 4000000 in
set_option maxRecDepth 100000 in
theorem M_X8_cellsOf {l : Launch} {s0 : State} {b0 : Addr} {D : va_G} {ids : Nat → ClassId} {ex : Option Nat} {g : jv_Mem} {a0 : Int} {Q : Int → jv_Mem → Prop} (h : wp_X8_cellsOf a0 Q g) : jv_M l s0 b0 D ids yX8_cellsOf cX8_cellsOf 3 (some .int) 1 21 0 0 ex jv_SH g [jv_i a0] ex jv_SH (jv_qi Q) := by
  refine jv_M.of (by decide +kernel) rfl rfl (fun p e s m args below meth c C hml hr hlk hnm => ?_)
  replace C : jv_C p s m args c cX8_cellsOf RX8 s0 b0 D ids := C
  show jv_V p l e (jv_rm 1 21 0 0) s m args below meth c 0 0 (jv_ZM below s0 D ids ex jv_SH (jv_qi Q) args s 0 0) s0 D ids ex jv_SH g 0 [some (jv_i a0), none, none] []
  unfold wp_X8_cellsOf at h
  refine jv_const C dX8_cellsOf_0 ?_
  refine jv_istore_n (ls' := [some (jv_i a0), some (jv_i 0), none]) C dX8_cellsOf_1 (Nat.lt_of_lt_of_eq (Nat.le_of_ble_eq_true rfl) hml) rfl ?_
  refine jv_const C dX8_cellsOf_2 ?_
  refine jv_istore_n (ls' := [some (jv_i a0), some (jv_i 0), some (jv_i 0)]) C dX8_cellsOf_3 (Nat.lt_of_lt_of_eq (Nat.le_of_ble_eq_true rfl) hml) rfl ?_
  refine jv_less (ls' := [some (jv_i a0), some (jv_i 0), some (jv_i 0)]) ⟨rfl, ⟨rfl, ⟨rfl, trivial⟩⟩⟩ ?_
  refine jv_lp2.use h (fun (x1_4 x2_4 : Int) (gl_4 : jv_Mem) => jv_V p l e (jv_rm 1 21 0 0) s m args below meth c 0 0 (jv_ZM below s0 D ids ex jv_SH (jv_qi Q) args s 0 0) s0 D ids ex jv_SH gl_4 4 [some (jv_i a0), some (jv_i x1_4), some (jv_i x2_4)] []) ?_
  intro K4 hK4 x1_4 x2_4 gl_4 h
  refine jv_iload_n C dX8_cellsOf_4 rfl ?_
  refine jv_const C dX8_cellsOf_5 ?_
  obtain ⟨hr_6, h1_6, h2_6⟩ := h
  refine jv_icmp_ge (tgt := 25) C hr_6 ⟨by decide, by decide⟩ dX8_cellsOf_6 rfl (fun hc_6 => ?_) (fun hc_6 => ?_)
  · replace h := h1_6 hc_6
    refine jv_iload_n C dX8_cellsOf_25 rfl ?_
    exact jv_iret C hr hlk ⟨_, rfl, h⟩ dX8_cellsOf_26 ⟨rfl, rfl⟩
  · replace h := h2_6 hc_6
    refine jv_iload_n C dX8_cellsOf_9 rfl ?_
    refine jv_const C dX8_cellsOf_10 ?_
    refine jv_iload_n C dX8_cellsOf_11 rfl ?_
    refine jv_iload_n C dX8_cellsOf_12 rfl ?_
    refine jv_callSi C (M_X8_cellOf h) kw_X8_345 rfl ⟨rfl, rfl⟩ (st := [jv_i 1, jv_i x1_4]) rfl rfl ⟨rfl, rfl⟩ dX8_cellsOf_13 (fun r_13 g_13 h => ?_)
    refine jv_ishl C dX8_cellsOf_16 ?_
    refine jv_ior C dX8_cellsOf_17 ?_
    refine jv_top (fun v1_18 ev1_18 => ?_)
    replace h := h v1_18 ev1_18
    refine jv_istore_n (ls' := [some (jv_i a0), some (jv_i v1_18), some (jv_i x2_4)]) C dX8_cellsOf_18 (Nat.lt_of_lt_of_eq (Nat.le_of_ble_eq_true rfl) hml) rfl ?_
    refine jv_iincn C dX8_cellsOf_19 (Nat.lt_of_lt_of_eq (Nat.le_of_ble_eq_true rfl) hml) rfl (fun v2_19 ev2_19 => ?_)
    replace h := h v2_19 ev2_19
    refine jv_lset (ls' := [some (jv_i a0), some (jv_i v1_18), some (jv_i v2_19)]) rfl ?_
    refine jv_goto (tgt := 4) C dX8_cellsOf_22 rfl ?_
    exact jv_less (ls' := [some (jv_i a0), some (jv_i v1_18), some (jv_i v2_19)]) ⟨rfl, ⟨rfl, ⟨rfl, trivial⟩⟩⟩ (hK4 _ _ _ h)

def wp_X3_setWrong (t : Int) (a1 : Int) (Q : jv_Mem → Prop) (g : jv_Mem) : Prop :=
  (∀ g_9 : jv_Mem, g_9 = jv_up g t 3 (jv_or (g t 3) (jv_shl 1 a1)) → (wp_X8_cellsOf a1 (fun (r_18 : Int) (g_18 : jv_Mem) => (∀ g_22 : jv_Mem, g_22 = jv_up g_18 t 4 (jv_or (g_9 t 4) r_18) → Q g_22)) g_9))
set_option maxHeartbeats 4000000 in
set_option maxRecDepth 100000 in
theorem M_X3_setWrong {l : Launch} {s0 : State} {b0 : Addr} {D : va_G} {ids : Nat → ClassId} {ex : Option Nat} {g : jv_Mem} {t : Int} {a1 : Int} {Q : jv_Mem → Prop} (ht : jv_isPz t) (h : wp_X3_setWrong t a1 Q g) : jv_M l s0 b0 D ids yX3_setWrong cX3_setWrong 2 none 2 43 0 0 ex jv_SH g [.ref (s0.heap.size + (t : Int).toNat), jv_i a1] ex jv_SH (jv_qv Q) := by
  refine jv_M.of (by decide +kernel) rfl rfl (fun p e s m args below meth c C hml hr hlk hnm => ?_)
  replace C : jv_C p s m args c cX3_setWrong RX3 s0 b0 D ids := C
  show jv_V p l e (jv_rm 2 43 0 0) s m args below meth c 0 0 (jv_ZM below s0 D ids ex jv_SH (jv_qv Q) args s 0 0) s0 D ids ex jv_SH g 0 [some (.ref (s0.heap.size + (t : Int).toNat)), some (jv_i a1)] []
  unfold wp_X3_setWrong at h
  refine jv_aload_n C dX3_setWrong_0 rfl ?_
  refine jv_dup C rfl dX3_setWrong_1 ?_
  refine jv_geti C kf_X3_22 ht.1 rfl dX3_setWrong_2 ?_
  refine jv_const C dX3_setWrong_5 ?_
  refine jv_iload_n C dX3_setWrong_6 rfl ?_
  refine jv_ishl C dX3_setWrong_7 ?_
  refine jv_ior C dX3_setWrong_8 ?_
  refine jv_puti C kf_X3_22 ht.1 rfl dX3_setWrong_9 (jv_gm (fun g_9 eg_9 => ?_))
  replace h := h g_9 eg_9
  refine jv_aload_n C dX3_setWrong_12 rfl ?_
  refine jv_dup C rfl dX3_setWrong_13 ?_
  refine jv_geti C kf_X3_25 ht.1 rfl dX3_setWrong_14 ?_
  refine jv_iload_n C dX3_setWrong_17 rfl ?_
  refine jv_callSNi C (M_X8_cellsOf h) kw_X3_28 rfl ⟨rfl, rfl⟩ (st := [jv_i (g_9 t 4), .ref (s0.heap.size + (t : Int).toNat)]) rfl rfl ⟨rfl, rfl⟩ dX3_setWrong_18 (fun r_18 g_18 h => ?_)
  refine jv_ior C dX3_setWrong_21 ?_
  refine jv_puti C kf_X3_25 ht.1 rfl dX3_setWrong_22 (jv_gm (fun g_22 eg_22 => ?_))
  replace h := h g_22 eg_22
  exact jv_vret C hr hlk ⟨rfl, h⟩ dX3_setWrong_25 ⟨rfl, rfl⟩

def wp_X3_openCells (t : Int) (Q : Int → jv_Mem → Prop) (g : jv_Mem) : Prop :=
  Q (g t 4) g
set_option maxHeartbeats 4000000 in
set_option maxRecDepth 100000 in
theorem M_X3_openCells {l : Launch} {s0 : State} {b0 : Addr} {D : va_G} {ids : Nat → ClassId} {ex : Option Nat} {g : jv_Mem} {t : Int} {Q : Int → jv_Mem → Prop} (ht : jv_isPz t) (h : wp_X3_openCells t Q g) : jv_M l s0 b0 D ids yX3_openCells cX3_openCells 1 (some .int) 0 0 0 0 ex jv_SH g [.ref (s0.heap.size + (t : Int).toNat)] ex jv_SH (jv_qi Q) := by
  refine jv_M.of (by decide +kernel) rfl rfl (fun p e s m args below meth c C hml hr hlk hnm => ?_)
  replace C : jv_C p s m args c cX3_openCells RX3 s0 b0 D ids := C
  show jv_V p l e (jv_rm 0 0 0 0) s m args below meth c 0 0 (jv_ZM below s0 D ids ex jv_SH (jv_qi Q) args s 0 0) s0 D ids ex jv_SH g 0 [some (.ref (s0.heap.size + (t : Int).toNat))] []
  unfold wp_X3_openCells at h
  refine jv_aload_n C dX3_openCells_0 rfl ?_
  refine jv_geti C kf_X3_25 ht.1 rfl dX3_openCells_1 ?_
  exact jv_iret C hr hlk ⟨_, rfl, h⟩ dX3_openCells_4 ⟨rfl, rfl⟩

def wp_X3_isOpen (t : Int) (a1 : Int) (Q : Int → jv_Mem → Prop) (g : jv_Mem) : Prop :=
  ((jv_r (jv_and (jv_shr (g t 4) a1) 1)) ∧ ((jv_and (jv_shr (g t 4) a1) 1) = 0 → Q 0 g) ∧ (¬ (jv_and (jv_shr (g t 4) a1) 1) = 0 → Q 1 g))
set_option maxHeartbeats 4000000 in
set_option maxRecDepth 100000 in
theorem M_X3_isOpen {l : Launch} {s0 : State} {b0 : Addr} {D : va_G} {ids : Nat → ClassId} {ex : Option Nat} {g : jv_Mem} {t : Int} {a1 : Int} {Q : Int → jv_Mem → Prop} (ht : jv_isPz t) (h : wp_X3_isOpen t a1 Q g) : jv_M l s0 b0 D ids yX3_isOpen cX3_isOpen 2 (some .boolean) 0 0 0 0 ex jv_SH g [.ref (s0.heap.size + (t : Int).toNat), jv_i a1] ex jv_SH (jv_qi Q) := by
  refine jv_M.of (by decide +kernel) rfl rfl (fun p e s m args below meth c C hml hr hlk hnm => ?_)
  replace C : jv_C p s m args c cX3_isOpen RX3 s0 b0 D ids := C
  show jv_V p l e (jv_rm 0 0 0 0) s m args below meth c 0 0 (jv_ZM below s0 D ids ex jv_SH (jv_qi Q) args s 0 0) s0 D ids ex jv_SH g 0 [some (.ref (s0.heap.size + (t : Int).toNat)), some (jv_i a1)] []
  unfold wp_X3_isOpen at h
  refine jv_aload_n C dX3_isOpen_0 rfl ?_
  refine jv_geti C kf_X3_25 ht.1 rfl dX3_isOpen_1 ?_
  refine jv_iload_n C dX3_isOpen_4 rfl ?_
  refine jv_ishr C dX3_isOpen_5 ?_
  refine jv_const C dX3_isOpen_6 ?_
  refine jv_iand C dX3_isOpen_7 ?_
  obtain ⟨hr_8, h1_8, h2_8⟩ := h
  refine jv_if_eq (tgt := 15) C hr_8 dX3_isOpen_8 rfl (fun hc_8 => ?_) (fun hc_8 => ?_)
  · replace h := h1_8 hc_8
    refine jv_const C dX3_isOpen_15 ?_
    exact jv_zret C hr hlk rfl ⟨_, rfl, h⟩ dX3_isOpen_16 ⟨rfl, rfl⟩
  · replace h := h2_8 hc_8
    refine jv_const C dX3_isOpen_11 ?_
    refine jv_goto (tgt := 16) C dX3_isOpen_12 rfl ?_
    exact jv_zret C hr hlk rfl ⟨_, rfl, h⟩ dX3_isOpen_16 ⟨rfl, rfl⟩

def wp_X4_join (t : Int) (a1 : Int) (a2 : Int) (Q : jv_Mem → Prop) (g : jv_Mem) : Prop :=
  (wp_X2_begin (t + 1) a1 (fun (g_5 : jv_Mem) => (∀ g_10 : jv_Mem, g_10 = jv_up g_5 t 3 a2 → Q g_10)) g)
set_option maxHeartbeats 4000000 in
set_option maxRecDepth 100000 in
theorem M_X4_join {l : Launch} {s0 : State} {b0 : Addr} {D : va_G} {ids : Nat → ClassId} {ex : Option Nat} {g : jv_Mem} {t : Int} {a1 : Int} {a2 : Int} {Q : jv_Mem → Prop} (ht : jv_isSv t) (h : wp_X4_join t a1 a2 Q g) : jv_M l s0 b0 D ids yX4_join cX4_join 3 none 2 45 0 0 ex jv_SH g [.ref (s0.heap.size + (t : Int).toNat), jv_i a1, jv_i a2] ex jv_SH (jv_qv Q) := by
  refine jv_M.of (by decide +kernel) rfl rfl (fun p e s m args below meth c C hml hr hlk hnm => ?_)
  replace C : jv_C p s m args c cX4_join RX4 s0 b0 D ids := C
  show jv_V p l e (jv_rm 2 45 0 0) s m args below meth c 0 0 (jv_ZM below s0 D ids ex jv_SH (jv_qv Q) args s 0 0) s0 D ids ex jv_SH g 0 [some (.ref (s0.heap.size + (t : Int).toNat)), some (jv_i a1), some (jv_i a2)] []
  unfold wp_X4_join at h
  refine jv_aload_n C dX4_join_0 rfl ?_
  refine jv_getr C kf_X4_12 ht.1 rfl dX4_join_1 ?_
  refine jv_iload_n C dX4_join_4 rfl ?_
  refine jv_callVv C (M_X2_begin ht.2.2.2 h) kw_X4_25 ht.2.2.2.1 rfl rfl ⟨rfl, rfl⟩ (st := []) rfl rfl ⟨rfl, rfl⟩ dX4_join_5 (fun g_5 h => ?_)
  refine jv_aload_n C dX4_join_8 rfl ?_
  refine jv_iload_n C dX4_join_9 rfl ?_
  refine jv_puti C kf_X4_29 ht.1 rfl dX4_join_10 (jv_gm (fun g_10 eg_10 => ?_))
  replace h := h g_10 eg_10
  exact jv_vret C hr hlk ⟨rfl, h⟩ dX4_join_13 ⟨rfl, rfl⟩

def wp_X4_purse (t : Int) (Q : Int → jv_Mem → Prop) (g : jv_Mem) : Prop :=
  Q (g t 3) g
set_option maxHeartbeats 4000000 in
set_option maxRecDepth 100000 in
theorem M_X4_purse {l : Launch} {s0 : State} {b0 : Addr} {D : va_G} {ids : Nat → ClassId} {ex : Option Nat} {g : jv_Mem} {t : Int} {Q : Int → jv_Mem → Prop} (ht : jv_isSv t) (h : wp_X4_purse t Q g) : jv_M l s0 b0 D ids yX4_purse cX4_purse 1 (some .int) 0 0 0 0 ex jv_SH g [.ref (s0.heap.size + (t : Int).toNat)] ex jv_SH (jv_qi Q) := by
  refine jv_M.of (by decide +kernel) rfl rfl (fun p e s m args below meth c C hml hr hlk hnm => ?_)
  replace C : jv_C p s m args c cX4_purse RX4 s0 b0 D ids := C
  show jv_V p l e (jv_rm 0 0 0 0) s m args below meth c 0 0 (jv_ZM below s0 D ids ex jv_SH (jv_qi Q) args s 0 0) s0 D ids ex jv_SH g 0 [some (.ref (s0.heap.size + (t : Int).toNat))] []
  unfold wp_X4_purse at h
  refine jv_aload_n C dX4_purse_0 rfl ?_
  refine jv_geti C kf_X4_29 ht.1 rfl dX4_purse_1 ?_
  exact jv_iret C hr hlk ⟨_, rfl, h⟩ dX4_purse_4 ⟨rfl, rfl⟩

def wp_X4_cost (t : Int) (a1 : Int) (Q : Int → jv_Mem → Prop) (g : jv_Mem) : Prop :=
  jv_lp2 (fun (K4 : Int → Int → jv_Mem → Prop) (x2_4 x3_4 : Int) (gl_4 : jv_Mem) => (((0 : Int) ≤ a1 ∧ a1 < (20 : Int)) ∧ ((jv_r x3_4 ∧ jv_r (gl_4 (t + 5) a1)) ∧ ((gl_4 (t + 5) a1) ≤ x3_4 → Q x2_4 gl_4) ∧ (x3_4 < (gl_4 (t + 5) a1) → ((jv_r (2 * x2_4)) ∧ (∀ v2_22 : Int, v2_22 = (if 40 < (2 * x2_4) then 40 else (2 * x2_4)) → (∀ v3_23 : Int, v3_23 = x3_4 + 1 → K4 v2_22 v3_23 gl_4))))))) 5 0 g
set_option maxHeartbeats 4000000 in
set_option maxRecDepth 100000 in
theorem M_X4_cost {l : Launch} {s0 : State} {b0 : Addr} {D : va_G} {ids : Nat → ClassId} {ex : Option Nat} {g : jv_Mem} {t : Int} {a1 : Int} {Q : Int → jv_Mem → Prop} (ht : jv_isSv t) (h : wp_X4_cost t a1 Q g) : jv_M l s0 b0 D ids yX4_cost cX4_cost 4 (some .int) 1 21 0 0 ex jv_SH g [.ref (s0.heap.size + (t : Int).toNat), jv_i a1] ex jv_SH (jv_qi Q) := by
  refine jv_M.of (by decide +kernel) rfl rfl (fun p e s m args below meth c C hml hr hlk hnm => ?_)
  replace C : jv_C p s m args c cX4_cost RX4 s0 b0 D ids := C
  show jv_V p l e (jv_rm 1 21 0 0) s m args below meth c 0 0 (jv_ZM below s0 D ids ex jv_SH (jv_qi Q) args s 0 0) s0 D ids ex jv_SH g 0 [some (.ref (s0.heap.size + (t : Int).toNat)), some (jv_i a1), none, none] []
  unfold wp_X4_cost at h
  refine jv_const C dX4_cost_0 ?_
  refine jv_istore_n (ls' := [some (.ref (s0.heap.size + (t : Int).toNat)), some (jv_i a1), some (jv_i 5), none]) C dX4_cost_1 (Nat.lt_of_lt_of_eq (Nat.le_of_ble_eq_true rfl) hml) rfl ?_
  refine jv_const C dX4_cost_2 ?_
  refine jv_istore_n (ls' := [some (.ref (s0.heap.size + (t : Int).toNat)), some (jv_i a1), some (jv_i 5), some (jv_i 0)]) C dX4_cost_3 (Nat.lt_of_lt_of_eq (Nat.le_of_ble_eq_true rfl) hml) rfl ?_
  refine jv_less (ls' := [some (.ref (s0.heap.size + (t : Int).toNat)), some (jv_i a1), some (jv_i 5), some (jv_i 0)]) ⟨rfl, ⟨rfl, ⟨rfl, ⟨rfl, trivial⟩⟩⟩⟩ ?_
  refine jv_lp2.use h (fun (x2_4 x3_4 : Int) (gl_4 : jv_Mem) => jv_V p l e (jv_rm 1 21 0 0) s m args below meth c 0 0 (jv_ZM below s0 D ids ex jv_SH (jv_qi Q) args s 0 0) s0 D ids ex jv_SH gl_4 4 [some (.ref (s0.heap.size + (t : Int).toNat)), some (jv_i a1), some (jv_i x2_4), some (jv_i x3_4)] []) ?_
  intro K4 hK4 x2_4 x3_4 gl_4 h
  refine jv_iload_n C dX4_cost_4 rfl ?_
  refine jv_aload_n C dX4_cost_5 rfl ?_
  refine jv_getr C kf_X4_22 ht.1 rfl dX4_cost_6 ?_
  refine jv_iload_n C dX4_cost_9 rfl ?_
  obtain ⟨hb_10, h⟩ := h
  refine jv_iald C ht.2.2.1 rfl hb_10 dX4_cost_10 ?_
  obtain ⟨hr_11, h1_11, h2_11⟩ := h
  refine jv_icmp_ge (tgt := 29) C hr_11.1 hr_11.2 dX4_cost_11 rfl (fun hc_11 => ?_) (fun hc_11 => ?_)
  · replace h := h1_11 hc_11
    refine jv_iload_n C dX4_cost_29 rfl ?_
    exact jv_iret C hr hlk ⟨_, rfl, h⟩ dX4_cost_30 ⟨rfl, rfl⟩
  · replace h := h2_11 hc_11
    refine jv_const C dX4_cost_14 ?_
    refine jv_iload_n C dX4_cost_15 rfl ?_
    refine jv_imul C dX4_cost_16 ?_
    refine jv_bipush C dX4_cost_17 (by decide +kernel) ?_
    obtain ⟨hr_19, h⟩ := h
    refine jv_mmin C hr_19 ⟨by decide, by decide⟩ kw_X4_37 ks_min ki_Math kd_min ⟨rfl, rfl⟩ ⟨rfl, rfl⟩ dX4_cost_19 ?_
    refine jv_top (fun v2_22 ev2_22 => ?_)
    replace h := h v2_22 ev2_22
    refine jv_istore_n (ls' := [some (.ref (s0.heap.size + (t : Int).toNat)), some (jv_i a1), some (jv_i v2_22), some (jv_i x3_4)]) C dX4_cost_22 (Nat.lt_of_lt_of_eq (Nat.le_of_ble_eq_true rfl) hml) rfl ?_
    refine jv_iincn C dX4_cost_23 (Nat.lt_of_lt_of_eq (Nat.le_of_ble_eq_true rfl) hml) rfl (fun v3_23 ev3_23 => ?_)
    replace h := h v3_23 ev3_23
    refine jv_lset (ls' := [some (.ref (s0.heap.size + (t : Int).toNat)), some (jv_i a1), some (jv_i v2_22), some (jv_i v3_23)]) rfl ?_
    refine jv_goto (tgt := 4) C dX4_cost_26 rfl ?_
    exact jv_less (ls' := [some (.ref (s0.heap.size + (t : Int).toNat)), some (jv_i a1), some (jv_i v2_22), some (jv_i v3_23)]) ⟨rfl, ⟨rfl, ⟨rfl, ⟨rfl, trivial⟩⟩⟩⟩ (hK4 _ _ _ h)

def wp_X4_canPayHelp (t : Int) (a1 : Int) (Q : Int → jv_Mem → Prop) (g : jv_Mem) : Prop :=
  (wp_X4_cost t a1 (fun (r_6 : Int) (g_6 : jv_Mem) => ((jv_r (g t 3) ∧ jv_r r_6) ∧ ((g t 3) < r_6 → Q 0 g_6) ∧ (r_6 ≤ (g t 3) → Q 1 g_6))) g)
set_option maxHeartbeats 4000000 in
set_option maxRecDepth 100000 in
theorem M_X4_canPayHelp {l : Launch} {s0 : State} {b0 : Addr} {D : va_G} {ids : Nat → ClassId} {ex : Option Nat} {g : jv_Mem} {t : Int} {a1 : Int} {Q : Int → jv_Mem → Prop} (ht : jv_isSv t) (h : wp_X4_canPayHelp t a1 Q g) : jv_M l s0 b0 D ids yX4_canPayHelp cX4_canPayHelp 2 (some .boolean) 2 44 0 0 ex jv_SH g [.ref (s0.heap.size + (t : Int).toNat), jv_i a1] ex jv_SH (jv_qi Q) := by
  refine jv_M.of (by decide +kernel) rfl rfl (fun p e s m args below meth c C hml hr hlk hnm => ?_)
  replace C : jv_C p s m args c cX4_canPayHelp RX4 s0 b0 D ids := C
  show jv_V p l e (jv_rm 2 44 0 0) s m args below meth c 0 0 (jv_ZM below s0 D ids ex jv_SH (jv_qi Q) args s 0 0) s0 D ids ex jv_SH g 0 [some (.ref (s0.heap.size + (t : Int).toNat)), some (jv_i a1)] []
  unfold wp_X4_canPayHelp at h
  refine jv_aload_n C dX4_canPayHelp_0 rfl ?_
  refine jv_geti C kf_X4_29 ht.1 rfl dX4_canPayHelp_1 ?_
  refine jv_aload_n C dX4_canPayHelp_4 rfl ?_
  refine jv_iload_n C dX4_canPayHelp_5 rfl ?_
  refine jv_callVi C (M_X4_cost ht h) kw_X4_33 ht.1 rfl rfl ⟨rfl, rfl⟩ (st := [jv_i (g t 3)]) rfl rfl ⟨rfl, rfl⟩ dX4_canPayHelp_6 (fun r_6 g_6 h => ?_)
  obtain ⟨hr_9, h1_9, h2_9⟩ := h
  refine jv_icmp_lt (tgt := 16) C hr_9.1 hr_9.2 dX4_canPayHelp_9 rfl (fun hc_9 => ?_) (fun hc_9 => ?_)
  · replace h := h1_9 hc_9
    refine jv_const C dX4_canPayHelp_16 ?_
    exact jv_zret C hr hlk rfl ⟨_, rfl, h⟩ dX4_canPayHelp_17 ⟨rfl, rfl⟩
  · replace h := h2_9 hc_9
    refine jv_const C dX4_canPayHelp_12 ?_
    refine jv_goto (tgt := 17) C dX4_canPayHelp_13 rfl ?_
    exact jv_zret C hr hlk rfl ⟨_, rfl, h⟩ dX4_canPayHelp_17 ⟨rfl, rfl⟩

def wp_X4_payHelp (t : Int) (a1 : Int) (a2 : Int) (Q : jv_Mem → Prop) (g : jv_Mem) : Prop :=
  (wp_X4_cost t a1 (fun (r_2 : Int) (g_2 : jv_Mem) => (∀ g_13 : jv_Mem, g_13 = jv_up g_2 t 3 ((g_2 t 3) - r_2) → (((0 : Int) ≤ (a1 * 9) + a2 ∧ (a1 * 9) + a2 < (180 : Int)) ∧ (∀ g_27 : jv_Mem, g_27 = jv_up g_13 (t + 4) ((a1 * 9) + a2) r_2 → (((0 : Int) ≤ a1 ∧ a1 < (20 : Int)) ∧ (((0 : Int) ≤ a1 ∧ a1 < (20 : Int)) ∧ (∀ g_37 : jv_Mem, g_37 = jv_up g_27 (t + 5) a1 ((g_27 (t + 5) a1) + 1) → Q g_37))))))) g)
set_option maxHeartbeats 4000000 in
set_option maxRecDepth 100000 in
theorem M_X4_payHelp {l : Launch} {s0 : State} {b0 : Addr} {D : va_G} {ids : Nat → ClassId} {ex : Option Nat} {g : jv_Mem} {t : Int} {a1 : Int} {a2 : Int} {Q : jv_Mem → Prop} (ht : jv_isSv t) (h : wp_X4_payHelp t a1 a2 Q g) : jv_M l s0 b0 D ids yX4_payHelp cX4_payHelp 4 none 2 44 0 0 ex jv_SH g [.ref (s0.heap.size + (t : Int).toNat), jv_i a1, jv_i a2] ex jv_SH (jv_qv Q) := by
  refine jv_M.of (by decide +kernel) rfl rfl (fun p e s m args below meth c C hml hr hlk hnm => ?_)
  replace C : jv_C p s m args c cX4_payHelp RX4 s0 b0 D ids := C
  show jv_V p l e (jv_rm 2 44 0 0) s m args below meth c 0 0 (jv_ZM below s0 D ids ex jv_SH (jv_qv Q) args s 0 0) s0 D ids ex jv_SH g 0 [some (.ref (s0.heap.size + (t : Int).toNat)), some (jv_i a1), some (jv_i a2), none] []
  unfold wp_X4_payHelp at h
  refine jv_aload_n C dX4_payHelp_0 rfl ?_
  refine jv_iload_n C dX4_payHelp_1 rfl ?_
  refine jv_callVi C (M_X4_cost ht h) kw_X4_33 ht.1 rfl rfl ⟨rfl, rfl⟩ (st := []) rfl rfl ⟨rfl, rfl⟩ dX4_payHelp_2 (fun r_2 g_2 h => ?_)
  refine jv_istore_n (ls' := [some (.ref (s0.heap.size + (t : Int).toNat)), some (jv_i a1), some (jv_i a2), some (jv_i r_2)]) C dX4_payHelp_5 (Nat.lt_of_lt_of_eq (Nat.le_of_ble_eq_true rfl) hml) rfl ?_
  refine jv_aload_n C dX4_payHelp_6 rfl ?_
  refine jv_dup C rfl dX4_payHelp_7 ?_
  refine jv_geti C kf_X4_29 ht.1 rfl dX4_payHelp_8 ?_
  refine jv_iload_n C dX4_payHelp_11 rfl ?_
  refine jv_isub C dX4_payHelp_12 ?_
  refine jv_puti C kf_X4_29 ht.1 rfl dX4_payHelp_13 (jv_gm (fun g_13 eg_13 => ?_))
  replace h := h g_13 eg_13
  refine jv_aload_n C dX4_payHelp_16 rfl ?_
  refine jv_getr C kf_X4_18 ht.1 rfl dX4_payHelp_17 ?_
  refine jv_iload_n C dX4_payHelp_20 rfl ?_
  refine jv_bipush C dX4_payHelp_21 (by decide +kernel) ?_
  refine jv_imul C dX4_payHelp_23 ?_
  refine jv_iload_n C dX4_payHelp_24 rfl ?_
  refine jv_iadd C dX4_payHelp_25 ?_
  refine jv_iload_n C dX4_payHelp_26 rfl ?_
  obtain ⟨hb_27, h⟩ := h
  refine jv_iast C ht.2.1 rfl hb_27 dX4_payHelp_27 (jv_gm (fun g_27 eg_27 => ?_))
  replace h := h g_27 eg_27
  refine jv_aload_n C dX4_payHelp_28 rfl ?_
  refine jv_getr C kf_X4_22 ht.1 rfl dX4_payHelp_29 ?_
  refine jv_iload_n C dX4_payHelp_32 rfl ?_
  refine jv_dup2 C rfl rfl dX4_payHelp_33 ?_
  obtain ⟨hb_34, h⟩ := h
  refine jv_iald C ht.2.2.1 rfl hb_34 dX4_payHelp_34 ?_
  refine jv_const C dX4_payHelp_35 ?_
  refine jv_iadd C dX4_payHelp_36 ?_
  obtain ⟨hb_37, h⟩ := h
  refine jv_iast C ht.2.2.1 rfl hb_37 dX4_payHelp_37 (jv_gm (fun g_37 eg_37 => ?_))
  replace h := h g_37 eg_37
  exact jv_vret C hr hlk ⟨rfl, h⟩ dX4_payHelp_38 ⟨rfl, rfl⟩

def wB_X4_payBack_36 (K2 : Int → jv_Mem → Prop) (x3_2 : Int) (gj_36 : jv_Mem) : Prop :=
  (∀ v3_36 : Int, v3_36 = x3_2 + 1 → K2 v3_36 gj_36)
def wp_X4_payBack (t : Int) (a1 : Int) (a2 : Int) (Q : jv_Mem → Prop) (g : jv_Mem) : Prop :=
  jv_lp1 (fun (K2 : Int → jv_Mem → Prop) (x3_2 : Int) (gl_2 : jv_Mem) => ((jv_r x3_2) ∧ (9 ≤ x3_2 → Q gl_2) ∧ (x3_2 < 9 → ((jv_r (jv_and (jv_shr a2 x3_2) 1)) ∧ ((jv_and (jv_shr a2 x3_2) 1) = 0 → wB_X4_payBack_36 K2 x3_2 gl_2) ∧ (¬ (jv_and (jv_shr a2 x3_2) 1) = 0 → (((0 : Int) ≤ (a1 * 9) + x3_2 ∧ (a1 * 9) + x3_2 < (180 : Int)) ∧ (∀ g_33 : jv_Mem, g_33 = jv_up gl_2 t 3 ((gl_2 t 3) + (gl_2 (t + 4) ((a1 * 9) + x3_2))) → wB_X4_payBack_36 K2 x3_2 g_33))))))) 0 g
set_option maxHeartbeats 4000000 in
set_option maxRecDepth 100000 in
theorem M_X4_payBack {l : Launch} {s0 : State} {b0 : Addr} {D : va_G} {ids : Nat → ClassId} {ex : Option Nat} {g : jv_Mem} {t : Int} {a1 : Int} {a2 : Int} {Q : jv_Mem → Prop} (ht : jv_isSv t) (h : wp_X4_payBack t a1 a2 Q g) : jv_M l s0 b0 D ids yX4_payBack cX4_payBack 4 none 0 0 0 0 ex jv_SH g [.ref (s0.heap.size + (t : Int).toNat), jv_i a1, jv_i a2] ex jv_SH (jv_qv Q) := by
  refine jv_M.of (by decide +kernel) rfl rfl (fun p e s m args below meth c C hml hr hlk hnm => ?_)
  replace C : jv_C p s m args c cX4_payBack RX4 s0 b0 D ids := C
  show jv_V p l e (jv_rm 0 0 0 0) s m args below meth c 0 0 (jv_ZM below s0 D ids ex jv_SH (jv_qv Q) args s 0 0) s0 D ids ex jv_SH g 0 [some (.ref (s0.heap.size + (t : Int).toNat)), some (jv_i a1), some (jv_i a2), none] []
  unfold wp_X4_payBack at h
  refine jv_const C dX4_payBack_0 ?_
  refine jv_istore_n (ls' := [some (.ref (s0.heap.size + (t : Int).toNat)), some (jv_i a1), some (jv_i a2), some (jv_i 0)]) C dX4_payBack_1 (Nat.lt_of_lt_of_eq (Nat.le_of_ble_eq_true rfl) hml) rfl ?_
  refine jv_less (ls' := [some (.ref (s0.heap.size + (t : Int).toNat)), some (jv_i a1), some (jv_i a2), some (jv_i 0)]) ⟨rfl, ⟨rfl, ⟨rfl, ⟨rfl, trivial⟩⟩⟩⟩ ?_
  refine jv_lp1.use h (fun (x3_2 : Int) (gl_2 : jv_Mem) => jv_V p l e (jv_rm 0 0 0 0) s m args below meth c 0 0 (jv_ZM below s0 D ids ex jv_SH (jv_qv Q) args s 0 0) s0 D ids ex jv_SH gl_2 2 [some (.ref (s0.heap.size + (t : Int).toNat)), some (jv_i a1), some (jv_i a2), some (jv_i x3_2)] []) ?_
  intro K2 hK2 x3_2 gl_2 h
  refine jv_iload_n C dX4_payBack_2 rfl ?_
  refine jv_bipush C dX4_payBack_3 (by decide +kernel) ?_
  obtain ⟨hr_5, h1_5, h2_5⟩ := h
  refine jv_icmp_ge (tgt := 42) C hr_5 ⟨by decide, by decide⟩ dX4_payBack_5 rfl (fun hc_5 => ?_) (fun hc_5 => ?_)
  · replace h := h1_5 hc_5
    exact jv_vret C hr hlk ⟨rfl, h⟩ dX4_payBack_42 ⟨rfl, rfl⟩
  · replace h := h2_5 hc_5
    refine jv_iload_n C dX4_payBack_8 rfl ?_
    refine jv_iload_n C dX4_payBack_9 rfl ?_
    refine jv_ishr C dX4_payBack_10 ?_
    refine jv_const C dX4_payBack_11 ?_
    refine jv_iand C dX4_payBack_12 ?_
    have hJ36 : ∀ (gj_36 : jv_Mem), wB_X4_payBack_36 K2 x3_2 gj_36 → jv_V p l e (jv_rm 0 0 0 0) s m args below meth c 0 0 (jv_ZM below s0 D ids ex jv_SH (jv_qv Q) args s 0 0) s0 D ids ex jv_SH gj_36 36 [some (.ref (s0.heap.size + (t : Int).toNat)), some (jv_i a1), some (jv_i a2), some (jv_i x3_2)] [] := by
      intro gj_36 h
      unfold wB_X4_payBack_36 at h
      refine jv_iincn C dX4_payBack_36 (Nat.lt_of_lt_of_eq (Nat.le_of_ble_eq_true rfl) hml) rfl (fun v3_36 ev3_36 => ?_)
      replace h := h v3_36 ev3_36
      refine jv_lset (ls' := [some (.ref (s0.heap.size + (t : Int).toNat)), some (jv_i a1), some (jv_i a2), some (jv_i v3_36)]) rfl ?_
      refine jv_goto (tgt := 2) C dX4_payBack_39 rfl ?_
      exact jv_less (ls' := [some (.ref (s0.heap.size + (t : Int).toNat)), some (jv_i a1), some (jv_i a2), some (jv_i v3_36)]) ⟨rfl, ⟨rfl, ⟨rfl, ⟨rfl, trivial⟩⟩⟩⟩ (hK2 _ _ h)
    obtain ⟨hr_13, h1_13, h2_13⟩ := h
    refine jv_if_eq (tgt := 36) C hr_13 dX4_payBack_13 rfl (fun hc_13 => ?_) (fun hc_13 => ?_)
    · replace h := h1_13 hc_13
      exact jv_less (ls' := [some (.ref (s0.heap.size + (t : Int).toNat)), some (jv_i a1), some (jv_i a2), some (jv_i x3_2)]) ⟨rfl, ⟨rfl, ⟨rfl, ⟨rfl, trivial⟩⟩⟩⟩ (hJ36 _ h)
    · replace h := h2_13 hc_13
      refine jv_aload_n C dX4_payBack_16 rfl ?_
      refine jv_dup C rfl dX4_payBack_17 ?_
      refine jv_geti C kf_X4_29 ht.1 rfl dX4_payBack_18 ?_
      refine jv_aload_n C dX4_payBack_21 rfl ?_
      refine jv_getr C kf_X4_18 ht.1 rfl dX4_payBack_22 ?_
      refine jv_iload_n C dX4_payBack_25 rfl ?_
      refine jv_bipush C dX4_payBack_26 (by decide +kernel) ?_
      refine jv_imul C dX4_payBack_28 ?_
      refine jv_iload_n C dX4_payBack_29 rfl ?_
      refine jv_iadd C dX4_payBack_30 ?_
      obtain ⟨hb_31, h⟩ := h
      refine jv_iald C ht.2.1 rfl hb_31 dX4_payBack_31 ?_
      refine jv_iadd C dX4_payBack_32 ?_
      refine jv_puti C kf_X4_29 ht.1 rfl dX4_payBack_33 (jv_gm (fun g_33 eg_33 => ?_))
      replace h := h g_33 eg_33
      exact jv_less (ls' := [some (.ref (s0.heap.size + (t : Int).toNat)), some (jv_i a1), some (jv_i a2), some (jv_i x3_2)]) ⟨rfl, ⟨rfl, ⟨rfl, ⟨rfl, trivial⟩⟩⟩⟩ (hJ36 _ h)

def wp_X5_isFull (Q : Int → jv_Mem → Prop) (g : jv_Mem) : Prop :=
  ((jv_r (g 1 1)) ∧ ((g 1 1) < 3 → Q 0 g) ∧ (3 ≤ (g 1 1) → Q 1 g))
set_option maxHeartbeats 4000000 in
set_option maxRecDepth 100000 in
theorem M_X5_isFull {l : Launch} {s0 : State} {b0 : Addr} {D : va_G} {ids : Nat → ClassId} {ex : Option Nat} {g : jv_Mem} {Q : Int → jv_Mem → Prop} (h : wp_X5_isFull Q g) : jv_M l s0 b0 D ids yX5_isFull cX5_isFull 1 (some .boolean) 0 0 0 0 ex jv_SH g [.ref (s0.heap.size + (1 : Int).toNat)] ex jv_SH (jv_qi Q) := by
  refine jv_M.of (by decide +kernel) rfl rfl (fun p e s m args below meth c C hml hr hlk hnm => ?_)
  replace C : jv_C p s m args c cX5_isFull RX5 s0 b0 D ids := C
  show jv_V p l e (jv_rm 0 0 0 0) s m args below meth c 0 0 (jv_ZM below s0 D ids ex jv_SH (jv_qi Q) args s 0 0) s0 D ids ex jv_SH g 0 [some (.ref (s0.heap.size + (1 : Int).toNat))] []
  unfold wp_X5_isFull at h
  refine jv_aload_n C dX5_isFull_0 rfl ?_
  refine jv_geti C kf_X5_15 sS_1 rfl dX5_isFull_1 ?_
  refine jv_const C dX5_isFull_4 ?_
  obtain ⟨hr_5, h1_5, h2_5⟩ := h
  refine jv_icmp_lt (tgt := 12) C hr_5 ⟨by decide, by decide⟩ dX5_isFull_5 rfl (fun hc_5 => ?_) (fun hc_5 => ?_)
  · replace h := h1_5 hc_5
    refine jv_const C dX5_isFull_12 ?_
    exact jv_zret C hr hlk rfl ⟨_, rfl, h⟩ dX5_isFull_13 ⟨rfl, rfl⟩
  · replace h := h2_5 hc_5
    refine jv_const C dX5_isFull_8 ?_
    refine jv_goto (tgt := 13) C dX5_isFull_9 rfl ?_
    exact jv_zret C hr hlk rfl ⟨_, rfl, h⟩ dX5_isFull_13 ⟨rfl, rfl⟩

def wp_X5_letterCount (Q : Int → jv_Mem → Prop) (g : jv_Mem) : Prop :=
  Q (g 1 1) g
set_option maxHeartbeats 4000000 in
set_option maxRecDepth 100000 in
theorem M_X5_letterCount {l : Launch} {s0 : State} {b0 : Addr} {D : va_G} {ids : Nat → ClassId} {ex : Option Nat} {g : jv_Mem} {Q : Int → jv_Mem → Prop} (h : wp_X5_letterCount Q g) : jv_M l s0 b0 D ids yX5_letterCount cX5_letterCount 1 (some .int) 0 0 0 0 ex jv_SH g [.ref (s0.heap.size + (1 : Int).toNat)] ex jv_SH (jv_qi Q) := by
  refine jv_M.of (by decide +kernel) rfl rfl (fun p e s m args below meth c C hml hr hlk hnm => ?_)
  replace C : jv_C p s m args c cX5_letterCount RX5 s0 b0 D ids := C
  show jv_V p l e (jv_rm 0 0 0 0) s m args below meth c 0 0 (jv_ZM below s0 D ids ex jv_SH (jv_qi Q) args s 0 0) s0 D ids ex jv_SH g 0 [some (.ref (s0.heap.size + (1 : Int).toNat))] []
  unfold wp_X5_letterCount at h
  refine jv_aload_n C dX5_letterCount_0 rfl ?_
  refine jv_geti C kf_X5_15 sS_1 rfl dX5_letterCount_1 ?_
  exact jv_iret C hr hlk ⟨_, rfl, h⟩ dX5_letterCount_4 ⟨rfl, rfl⟩

def wp_X5_putAtEnd (a1 : Int) (Q : jv_Mem → Prop) (g : jv_Mem) : Prop :=
  (((0 : Int) ≤ g 1 1 ∧ g 1 1 < (3 : Int)) ∧ (∀ g_9 : jv_Mem, g_9 = jv_up g 2 (g 1 1) a1 → (∀ g_17 : jv_Mem, g_17 = jv_up g_9 1 1 ((g_9 1 1) + 1) → Q g_17)))
set_option maxHeartbeats 4000000 in
set_option maxRecDepth 100000 in
theorem M_X5_putAtEnd {l : Launch} {s0 : State} {b0 : Addr} {D : va_G} {ids : Nat → ClassId} {ex : Option Nat} {g : jv_Mem} {a1 : Int} {Q : jv_Mem → Prop} (h : wp_X5_putAtEnd a1 Q g) : jv_M l s0 b0 D ids yX5_putAtEnd cX5_putAtEnd 2 none 0 0 0 0 ex jv_SH g [.ref (s0.heap.size + (1 : Int).toNat), jv_i a1] ex jv_SH (jv_qv Q) := by
  refine jv_M.of (by decide +kernel) rfl rfl (fun p e s m args below meth c C hml hr hlk hnm => ?_)
  replace C : jv_C p s m args c cX5_putAtEnd RX5 s0 b0 D ids := C
  show jv_V p l e (jv_rm 0 0 0 0) s m args below meth c 0 0 (jv_ZM below s0 D ids ex jv_SH (jv_qv Q) args s 0 0) s0 D ids ex jv_SH g 0 [some (.ref (s0.heap.size + (1 : Int).toNat)), some (jv_i a1)] []
  unfold wp_X5_putAtEnd at h
  refine jv_aload_n C dX5_putAtEnd_0 rfl ?_
  refine jv_getr C kf_X5_9 sS_1 rfl dX5_putAtEnd_1 ?_
  refine jv_aload_n C dX5_putAtEnd_4 rfl ?_
  refine jv_geti C kf_X5_15 sS_1 rfl dX5_putAtEnd_5 ?_
  refine jv_iload_n C dX5_putAtEnd_8 rfl ?_
  obtain ⟨hb_9, h⟩ := h
  refine jv_iast C sS_2 rfl hb_9 dX5_putAtEnd_9 (jv_gm (fun g_9 eg_9 => ?_))
  replace h := h g_9 eg_9
  refine jv_aload_n C dX5_putAtEnd_10 rfl ?_
  refine jv_dup C rfl dX5_putAtEnd_11 ?_
  refine jv_geti C kf_X5_15 sS_1 rfl dX5_putAtEnd_12 ?_
  refine jv_const C dX5_putAtEnd_15 ?_
  refine jv_iadd C dX5_putAtEnd_16 ?_
  refine jv_puti C kf_X5_15 sS_1 rfl dX5_putAtEnd_17 (jv_gm (fun g_17 eg_17 => ?_))
  replace h := h g_17 eg_17
  exact jv_vret C hr hlk ⟨rfl, h⟩ dX5_putAtEnd_20 ⟨rfl, rfl⟩

def wp_X5_putAtBeginning (a1 : Int) (Q : jv_Mem → Prop) (g : jv_Mem) : Prop :=
  (∀ v2_4 : Int, v2_4 = g 1 1 → jv_lp1 (fun (K5 : Int → jv_Mem → Prop) (x2_5 : Int) (gl_5 : jv_Mem) => ((jv_r x2_5) ∧ (x2_5 ≤ 0 → (((0 : Int) ≤ 0 ∧ 0 < (3 : Int)) ∧ (∀ g_35 : jv_Mem, g_35 = jv_up gl_5 2 0 a1 → (∀ g_43 : jv_Mem, g_43 = jv_up g_35 1 1 ((g_35 1 1) + 1) → Q g_43)))) ∧ (0 < x2_5 → (((0 : Int) ≤ x2_5 - 1 ∧ x2_5 - 1 < (3 : Int)) ∧ (((0 : Int) ≤ x2_5 ∧ x2_5 < (3 : Int)) ∧ (∀ g_22 : jv_Mem, g_22 = jv_up gl_5 2 x2_5 (gl_5 2 (x2_5 - 1)) → (∀ v2_23 : Int, v2_23 = x2_5 + (-1) → K5 v2_23 g_22))))))) v2_4 g)
set_option maxHeartbeats 4000000 in
set_option maxRecDepth 100000 in
theorem M_X5_putAtBeginning {l : Launch} {s0 : State} {b0 : Addr} {D : va_G} {ids : Nat → ClassId} {ex : Option Nat} {g : jv_Mem} {a1 : Int} {Q : jv_Mem → Prop} (h : wp_X5_putAtBeginning a1 Q g) : jv_M l s0 b0 D ids yX5_putAtBeginning cX5_putAtBeginning 3 none 0 0 0 0 ex jv_SH g [.ref (s0.heap.size + (1 : Int).toNat), jv_i a1] ex jv_SH (jv_qv Q) := by
  refine jv_M.of (by decide +kernel) rfl rfl (fun p e s m args below meth c C hml hr hlk hnm => ?_)
  replace C : jv_C p s m args c cX5_putAtBeginning RX5 s0 b0 D ids := C
  show jv_V p l e (jv_rm 0 0 0 0) s m args below meth c 0 0 (jv_ZM below s0 D ids ex jv_SH (jv_qv Q) args s 0 0) s0 D ids ex jv_SH g 0 [some (.ref (s0.heap.size + (1 : Int).toNat)), some (jv_i a1), none] []
  unfold wp_X5_putAtBeginning at h
  refine jv_aload_n C dX5_putAtBeginning_0 rfl ?_
  refine jv_geti C kf_X5_15 sS_1 rfl dX5_putAtBeginning_1 ?_
  refine jv_top (fun v2_4 ev2_4 => ?_)
  replace h := h v2_4 ev2_4
  refine jv_istore_n (ls' := [some (.ref (s0.heap.size + (1 : Int).toNat)), some (jv_i a1), some (jv_i v2_4)]) C dX5_putAtBeginning_4 (Nat.lt_of_lt_of_eq (Nat.le_of_ble_eq_true rfl) hml) rfl ?_
  refine jv_less (ls' := [some (.ref (s0.heap.size + (1 : Int).toNat)), some (jv_i a1), some (jv_i v2_4)]) ⟨rfl, ⟨rfl, ⟨rfl, trivial⟩⟩⟩ ?_
  refine jv_lp1.use h (fun (x2_5 : Int) (gl_5 : jv_Mem) => jv_V p l e (jv_rm 0 0 0 0) s m args below meth c 0 0 (jv_ZM below s0 D ids ex jv_SH (jv_qv Q) args s 0 0) s0 D ids ex jv_SH gl_5 5 [some (.ref (s0.heap.size + (1 : Int).toNat)), some (jv_i a1), some (jv_i x2_5)] []) ?_
  intro K5 hK5 x2_5 gl_5 h
  refine jv_iload_n C dX5_putAtBeginning_5 rfl ?_
  obtain ⟨hr_6, h1_6, h2_6⟩ := h
  refine jv_if_le (tgt := 29) C hr_6 dX5_putAtBeginning_6 rfl (fun hc_6 => ?_) (fun hc_6 => ?_)
  · replace h := h1_6 hc_6
    refine jv_aload_n C dX5_putAtBeginning_29 rfl ?_
    refine jv_getr C kf_X5_9 sS_1 rfl dX5_putAtBeginning_30 ?_
    refine jv_const C dX5_putAtBeginning_33 ?_
    refine jv_iload_n C dX5_putAtBeginning_34 rfl ?_
    obtain ⟨hb_35, h⟩ := h
    refine jv_iast C sS_2 rfl hb_35 dX5_putAtBeginning_35 (jv_gm (fun g_35 eg_35 => ?_))
    replace h := h g_35 eg_35
    refine jv_aload_n C dX5_putAtBeginning_36 rfl ?_
    refine jv_dup C rfl dX5_putAtBeginning_37 ?_
    refine jv_geti C kf_X5_15 sS_1 rfl dX5_putAtBeginning_38 ?_
    refine jv_const C dX5_putAtBeginning_41 ?_
    refine jv_iadd C dX5_putAtBeginning_42 ?_
    refine jv_puti C kf_X5_15 sS_1 rfl dX5_putAtBeginning_43 (jv_gm (fun g_43 eg_43 => ?_))
    replace h := h g_43 eg_43
    exact jv_vret C hr hlk ⟨rfl, h⟩ dX5_putAtBeginning_46 ⟨rfl, rfl⟩
  · replace h := h2_6 hc_6
    refine jv_aload_n C dX5_putAtBeginning_9 rfl ?_
    refine jv_getr C kf_X5_9 sS_1 rfl dX5_putAtBeginning_10 ?_
    refine jv_iload_n C dX5_putAtBeginning_13 rfl ?_
    refine jv_aload_n C dX5_putAtBeginning_14 rfl ?_
    refine jv_getr C kf_X5_9 sS_1 rfl dX5_putAtBeginning_15 ?_
    refine jv_iload_n C dX5_putAtBeginning_18 rfl ?_
    refine jv_const C dX5_putAtBeginning_19 ?_
    refine jv_isub C dX5_putAtBeginning_20 ?_
    obtain ⟨hb_21, h⟩ := h
    refine jv_iald C sS_2 rfl hb_21 dX5_putAtBeginning_21 ?_
    obtain ⟨hb_22, h⟩ := h
    refine jv_iast C sS_2 rfl hb_22 dX5_putAtBeginning_22 (jv_gm (fun g_22 eg_22 => ?_))
    replace h := h g_22 eg_22
    refine jv_iincn C dX5_putAtBeginning_23 (Nat.lt_of_lt_of_eq (Nat.le_of_ble_eq_true rfl) hml) rfl (fun v2_23 ev2_23 => ?_)
    replace h := h v2_23 ev2_23
    refine jv_lset (ls' := [some (.ref (s0.heap.size + (1 : Int).toNat)), some (jv_i a1), some (jv_i v2_23)]) rfl ?_
    refine jv_goto (tgt := 5) C dX5_putAtBeginning_26 rfl ?_
    exact jv_less (ls' := [some (.ref (s0.heap.size + (1 : Int).toNat)), some (jv_i a1), some (jv_i v2_23)]) ⟨rfl, ⟨rfl, ⟨rfl, trivial⟩⟩⟩ (hK5 _ _ h)

def wp_X5_reverse (Q : jv_Mem → Prop) (g : jv_Mem) : Prop :=
  ((jv_r (g 1 1)) ∧ ((g 1 1) ≤ 1 → Q g) ∧ (1 < (g 1 1) → (((0 : Int) ≤ 0 ∧ 0 < (3 : Int)) ∧ (∀ v1_14 : Int, v1_14 = g 2 0 → (((0 : Int) ≤ (g 1 1) - 1 ∧ (g 1 1) - 1 < (3 : Int)) ∧ (((0 : Int) ≤ 0 ∧ 0 < (3 : Int)) ∧ (∀ g_31 : jv_Mem, g_31 = jv_up g 2 0 (g 2 ((g 1 1) - 1)) → (((0 : Int) ≤ (g_31 1 1) - 1 ∧ (g_31 1 1) - 1 < (3 : Int)) ∧ (∀ g_43 : jv_Mem, g_43 = jv_up g_31 2 ((g_31 1 1) - 1) v1_14 → Q g_43)))))))))
set_option maxHeartbeats 4000000 in
set_option maxRecDepth 100000 in
theorem M_X5_reverse {l : Launch} {s0 : State} {b0 : Addr} {D : va_G} {ids : Nat → ClassId} {ex : Option Nat} {g : jv_Mem} {Q : jv_Mem → Prop} (h : wp_X5_reverse Q g) : jv_M l s0 b0 D ids yX5_reverse cX5_reverse 2 none 0 0 0 0 ex jv_SH g [.ref (s0.heap.size + (1 : Int).toNat)] ex jv_SH (jv_qv Q) := by
  refine jv_M.of (by decide +kernel) rfl rfl (fun p e s m args below meth c C hml hr hlk hnm => ?_)
  replace C : jv_C p s m args c cX5_reverse RX5 s0 b0 D ids := C
  show jv_V p l e (jv_rm 0 0 0 0) s m args below meth c 0 0 (jv_ZM below s0 D ids ex jv_SH (jv_qv Q) args s 0 0) s0 D ids ex jv_SH g 0 [some (.ref (s0.heap.size + (1 : Int).toNat)), none] []
  unfold wp_X5_reverse at h
  refine jv_aload_n C dX5_reverse_0 rfl ?_
  refine jv_geti C kf_X5_15 sS_1 rfl dX5_reverse_1 ?_
  refine jv_const C dX5_reverse_4 ?_
  obtain ⟨hr_5, h1_5, h2_5⟩ := h
  refine jv_icmp_le (tgt := 44) C hr_5 ⟨by decide, by decide⟩ dX5_reverse_5 rfl (fun hc_5 => ?_) (fun hc_5 => ?_)
  · replace h := h1_5 hc_5
    exact jv_vret C hr hlk ⟨rfl, h⟩ dX5_reverse_44 ⟨rfl, rfl⟩
  · replace h := h2_5 hc_5
    refine jv_aload_n C dX5_reverse_8 rfl ?_
    refine jv_getr C kf_X5_9 sS_1 rfl dX5_reverse_9 ?_
    refine jv_const C dX5_reverse_12 ?_
    obtain ⟨hb_13, h⟩ := h
    refine jv_iald C sS_2 rfl hb_13 dX5_reverse_13 ?_
    refine jv_top (fun v1_14 ev1_14 => ?_)
    replace h := h v1_14 ev1_14
    refine jv_istore_n (ls' := [some (.ref (s0.heap.size + (1 : Int).toNat)), some (jv_i v1_14)]) C dX5_reverse_14 (Nat.lt_of_lt_of_eq (Nat.le_of_ble_eq_true rfl) hml) rfl ?_
    refine jv_aload_n C dX5_reverse_15 rfl ?_
    refine jv_getr C kf_X5_9 sS_1 rfl dX5_reverse_16 ?_
    refine jv_const C dX5_reverse_19 ?_
    refine jv_aload_n C dX5_reverse_20 rfl ?_
    refine jv_getr C kf_X5_9 sS_1 rfl dX5_reverse_21 ?_
    refine jv_aload_n C dX5_reverse_24 rfl ?_
    refine jv_geti C kf_X5_15 sS_1 rfl dX5_reverse_25 ?_
    refine jv_const C dX5_reverse_28 ?_
    refine jv_isub C dX5_reverse_29 ?_
    obtain ⟨hb_30, h⟩ := h
    refine jv_iald C sS_2 rfl hb_30 dX5_reverse_30 ?_
    obtain ⟨hb_31, h⟩ := h
    refine jv_iast C sS_2 rfl hb_31 dX5_reverse_31 (jv_gm (fun g_31 eg_31 => ?_))
    replace h := h g_31 eg_31
    refine jv_aload_n C dX5_reverse_32 rfl ?_
    refine jv_getr C kf_X5_9 sS_1 rfl dX5_reverse_33 ?_
    refine jv_aload_n C dX5_reverse_36 rfl ?_
    refine jv_geti C kf_X5_15 sS_1 rfl dX5_reverse_37 ?_
    refine jv_const C dX5_reverse_40 ?_
    refine jv_isub C dX5_reverse_41 ?_
    refine jv_iload_n C dX5_reverse_42 rfl ?_
    obtain ⟨hb_43, h⟩ := h
    refine jv_iast C sS_2 rfl hb_43 dX5_reverse_43 (jv_gm (fun g_43 eg_43 => ?_))
    replace h := h g_43 eg_43
    exact jv_vret C hr hlk ⟨rfl, h⟩ dX5_reverse_44 ⟨rfl, rfl⟩

def wp_X5_empty (Q : jv_Mem → Prop) (g : jv_Mem) : Prop :=
  (∀ g_2 : jv_Mem, g_2 = jv_up g 1 1 0 → Q g_2)
set_option maxHeartbeats 4000000 in
set_option maxRecDepth 100000 in
theorem M_X5_empty {l : Launch} {s0 : State} {b0 : Addr} {D : va_G} {ids : Nat → ClassId} {ex : Option Nat} {g : jv_Mem} {Q : jv_Mem → Prop} (h : wp_X5_empty Q g) : jv_M l s0 b0 D ids yX5_empty cX5_empty 1 none 0 0 0 0 ex jv_SH g [.ref (s0.heap.size + (1 : Int).toNat)] ex jv_SH (jv_qv Q) := by
  refine jv_M.of (by decide +kernel) rfl rfl (fun p e s m args below meth c C hml hr hlk hnm => ?_)
  replace C : jv_C p s m args c cX5_empty RX5 s0 b0 D ids := C
  show jv_V p l e (jv_rm 0 0 0 0) s m args below meth c 0 0 (jv_ZM below s0 D ids ex jv_SH (jv_qv Q) args s 0 0) s0 D ids ex jv_SH g 0 [some (.ref (s0.heap.size + (1 : Int).toNat))] []
  unfold wp_X5_empty at h
  refine jv_aload_n C dX5_empty_0 rfl ?_
  refine jv_const C dX5_empty_1 ?_
  refine jv_puti C kf_X5_15 sS_1 rfl dX5_empty_2 (jv_gm (fun g_2 eg_2 => ?_))
  replace h := h g_2 eg_2
  exact jv_vret C hr hlk ⟨rfl, h⟩ dX5_empty_5 ⟨rfl, rfl⟩

def wp_X5_width (a0 : Int) (Q : Int → jv_Mem → Prop) (g : jv_Mem) : Prop :=
  ((jv_r a0) ∧ (¬ a0 = 8 → Q 1 g) ∧ (a0 = 8 → Q 2 g))
set_option maxHeartbeats 4000000 in
set_option maxRecDepth 100000 in
theorem M_X5_width {l : Launch} {s0 : State} {b0 : Addr} {D : va_G} {ids : Nat → ClassId} {ex : Option Nat} {g : jv_Mem} {a0 : Int} {Q : Int → jv_Mem → Prop} (h : wp_X5_width a0 Q g) : jv_M l s0 b0 D ids yX5_width cX5_width 1 (some .int) 0 0 0 0 ex jv_SH g [jv_i a0] ex jv_SH (jv_qi Q) := by
  refine jv_M.of (by decide +kernel) rfl rfl (fun p e s m args below meth c C hml hr hlk hnm => ?_)
  replace C : jv_C p s m args c cX5_width RX5 s0 b0 D ids := C
  show jv_V p l e (jv_rm 0 0 0 0) s m args below meth c 0 0 (jv_ZM below s0 D ids ex jv_SH (jv_qi Q) args s 0 0) s0 D ids ex jv_SH g 0 [some (jv_i a0)] []
  unfold wp_X5_width at h
  refine jv_iload_n C dX5_width_0 rfl ?_
  refine jv_bipush C dX5_width_1 (by decide +kernel) ?_
  obtain ⟨hr_3, h1_3, h2_3⟩ := h
  refine jv_icmp_ne (tgt := 10) C hr_3 ⟨by decide, by decide⟩ dX5_width_3 rfl (fun hc_3 => ?_) (fun hc_3 => ?_)
  · replace h := h1_3 hc_3
    refine jv_const C dX5_width_10 ?_
    exact jv_iret C hr hlk ⟨_, rfl, h⟩ dX5_width_11 ⟨rfl, rfl⟩
  · replace h := h2_3 hc_3
    refine jv_const C dX5_width_6 ?_
    refine jv_goto (tgt := 11) C dX5_width_7 rfl ?_
    exact jv_iret C hr hlk ⟨_, rfl, h⟩ dX5_width_11 ⟨rfl, rfl⟩

def wp_X5_charCount (Q : Int → jv_Mem → Prop) (g : jv_Mem) : Prop :=
  jv_lp2 (fun (K4 : Int → Int → jv_Mem → Prop) (x1_4 x2_4 : Int) (gl_4 : jv_Mem) => ((jv_r x2_4 ∧ jv_r (gl_4 1 1)) ∧ ((gl_4 1 1) ≤ x2_4 → Q x1_4 gl_4) ∧ (x2_4 < (gl_4 1 1) → (((0 : Int) ≤ x2_4 ∧ x2_4 < (3 : Int)) ∧ (wp_X5_width (gl_4 2 x2_4) (fun (r_19 : Int) (g_19 : jv_Mem) => (∀ v1_23 : Int, v1_23 = x1_4 + r_19 → (∀ v2_24 : Int, v2_24 = x2_4 + 1 → K4 v1_23 v2_24 g_19))) gl_4))))) 0 0 g
set_option maxHeartbeats 4000000 in
set_option maxRecDepth 100000 in
theorem M_X5_charCount {l : Launch} {s0 : State} {b0 : Addr} {D : va_G} {ids : Nat → ClassId} {ex : Option Nat} {g : jv_Mem} {Q : Int → jv_Mem → Prop} (h : wp_X5_charCount Q g) : jv_M l s0 b0 D ids yX5_charCount cX5_charCount 3 (some .int) 1 20 0 0 ex jv_SH g [.ref (s0.heap.size + (1 : Int).toNat)] ex jv_SH (jv_qi Q) := by
  refine jv_M.of (by decide +kernel) rfl rfl (fun p e s m args below meth c C hml hr hlk hnm => ?_)
  replace C : jv_C p s m args c cX5_charCount RX5 s0 b0 D ids := C
  show jv_V p l e (jv_rm 1 20 0 0) s m args below meth c 0 0 (jv_ZM below s0 D ids ex jv_SH (jv_qi Q) args s 0 0) s0 D ids ex jv_SH g 0 [some (.ref (s0.heap.size + (1 : Int).toNat)), none, none] []
  unfold wp_X5_charCount at h
  refine jv_const C dX5_charCount_0 ?_
  refine jv_istore_n (ls' := [some (.ref (s0.heap.size + (1 : Int).toNat)), some (jv_i 0), none]) C dX5_charCount_1 (Nat.lt_of_lt_of_eq (Nat.le_of_ble_eq_true rfl) hml) rfl ?_
  refine jv_const C dX5_charCount_2 ?_
  refine jv_istore_n (ls' := [some (.ref (s0.heap.size + (1 : Int).toNat)), some (jv_i 0), some (jv_i 0)]) C dX5_charCount_3 (Nat.lt_of_lt_of_eq (Nat.le_of_ble_eq_true rfl) hml) rfl ?_
  refine jv_less (ls' := [some (.ref (s0.heap.size + (1 : Int).toNat)), some (jv_i 0), some (jv_i 0)]) ⟨rfl, ⟨rfl, ⟨rfl, trivial⟩⟩⟩ ?_
  refine jv_lp2.use h (fun (x1_4 x2_4 : Int) (gl_4 : jv_Mem) => jv_V p l e (jv_rm 1 20 0 0) s m args below meth c 0 0 (jv_ZM below s0 D ids ex jv_SH (jv_qi Q) args s 0 0) s0 D ids ex jv_SH gl_4 4 [some (.ref (s0.heap.size + (1 : Int).toNat)), some (jv_i x1_4), some (jv_i x2_4)] []) ?_
  intro K4 hK4 x1_4 x2_4 gl_4 h
  refine jv_iload_n C dX5_charCount_4 rfl ?_
  refine jv_aload_n C dX5_charCount_5 rfl ?_
  refine jv_geti C kf_X5_15 sS_1 rfl dX5_charCount_6 ?_
  obtain ⟨hr_9, h1_9, h2_9⟩ := h
  refine jv_icmp_ge (tgt := 30) C hr_9.1 hr_9.2 dX5_charCount_9 rfl (fun hc_9 => ?_) (fun hc_9 => ?_)
  · replace h := h1_9 hc_9
    refine jv_iload_n C dX5_charCount_30 rfl ?_
    exact jv_iret C hr hlk ⟨_, rfl, h⟩ dX5_charCount_31 ⟨rfl, rfl⟩
  · replace h := h2_9 hc_9
    refine jv_iload_n C dX5_charCount_12 rfl ?_
    refine jv_aload_n C dX5_charCount_13 rfl ?_
    refine jv_getr C kf_X5_9 sS_1 rfl dX5_charCount_14 ?_
    refine jv_iload_n C dX5_charCount_17 rfl ?_
    obtain ⟨hb_18, h⟩ := h
    refine jv_iald C sS_2 rfl hb_18 dX5_charCount_18 ?_
    refine jv_callSi C (M_X5_width h) kw_X5_19 rfl ⟨rfl, rfl⟩ (st := [jv_i x1_4]) rfl rfl ⟨rfl, rfl⟩ dX5_charCount_19 (fun r_19 g_19 h => ?_)
    refine jv_iadd C dX5_charCount_22 ?_
    refine jv_top (fun v1_23 ev1_23 => ?_)
    replace h := h v1_23 ev1_23
    refine jv_istore_n (ls' := [some (.ref (s0.heap.size + (1 : Int).toNat)), some (jv_i v1_23), some (jv_i x2_4)]) C dX5_charCount_23 (Nat.lt_of_lt_of_eq (Nat.le_of_ble_eq_true rfl) hml) rfl ?_
    refine jv_iincn C dX5_charCount_24 (Nat.lt_of_lt_of_eq (Nat.le_of_ble_eq_true rfl) hml) rfl (fun v2_24 ev2_24 => ?_)
    replace h := h v2_24 ev2_24
    refine jv_lset (ls' := [some (.ref (s0.heap.size + (1 : Int).toNat)), some (jv_i v1_23), some (jv_i v2_24)]) rfl ?_
    refine jv_goto (tgt := 4) C dX5_charCount_27 rfl ?_
    exact jv_less (ls' := [some (.ref (s0.heap.size + (1 : Int).toNat)), some (jv_i v1_23), some (jv_i v2_24)]) ⟨rfl, ⟨rfl, ⟨rfl, trivial⟩⟩⟩ (hK4 _ _ _ h)

def wp_X5_charOf (a0 : Int) (a1 : Int) (Q : Int → jv_Mem → Prop) (g : jv_Mem) : Prop :=
  ((jv_r a0) ∧ (a0 = 8 → ((jv_r a1) ∧ (¬ a1 = 0 → Q 56606 g) ∧ (a1 = 0 → Q 55348 g))) ∧ (¬ a0 = 8 → Q (97 + a0) g))
set_option maxHeartbeats 4000000 in
set_option maxRecDepth 100000 in
theorem M_X5_charOf {l : Launch} {s0 : State} {b0 : Addr} {D : va_G} {ids : Nat → ClassId} {ex : Option Nat} {g : jv_Mem} {a0 : Int} {a1 : Int} {Q : Int → jv_Mem → Prop} (h : wp_X5_charOf a0 a1 Q g) : jv_M l s0 b0 D ids yX5_charOf cX5_charOf 2 (some .int) 0 0 0 0 ex jv_SH g [jv_i a0, jv_i a1] ex jv_SH (jv_qi Q) := by
  refine jv_M.of (by decide +kernel) rfl rfl (fun p e s m args below meth c C hml hr hlk hnm => ?_)
  replace C : jv_C p s m args c cX5_charOf RX5 s0 b0 D ids := C
  show jv_V p l e (jv_rm 0 0 0 0) s m args below meth c 0 0 (jv_ZM below s0 D ids ex jv_SH (jv_qi Q) args s 0 0) s0 D ids ex jv_SH g 0 [some (jv_i a0), some (jv_i a1)] []
  unfold wp_X5_charOf at h
  refine jv_iload_n C dX5_charOf_0 rfl ?_
  refine jv_bipush C dX5_charOf_1 (by decide +kernel) ?_
  obtain ⟨hr_3, h1_3, h2_3⟩ := h
  refine jv_icmp_eq (tgt := 11) C hr_3 ⟨by decide, by decide⟩ dX5_charOf_3 rfl (fun hc_3 => ?_) (fun hc_3 => ?_)
  · replace h := h1_3 hc_3
    refine jv_iload_n C dX5_charOf_11 rfl ?_
    obtain ⟨hr_12, h1_12, h2_12⟩ := h
    refine jv_if_ne (tgt := 20) C hr_12 dX5_charOf_12 rfl (fun hc_12 => ?_) (fun hc_12 => ?_)
    · replace h := h1_12 hc_12
      refine jv_ldc (n := 56606) C dX5_charOf_20 kc_X5_28 ?_
      exact jv_iret C hr hlk ⟨_, rfl, h⟩ dX5_charOf_22 ⟨rfl, rfl⟩
    · replace h := h2_12 hc_12
      refine jv_ldc (n := 55348) C dX5_charOf_15 kc_X5_27 ?_
      refine jv_goto (tgt := 22) C dX5_charOf_17 rfl ?_
      exact jv_iret C hr hlk ⟨_, rfl, h⟩ dX5_charOf_22 ⟨rfl, rfl⟩
  · replace h := h2_3 hc_3
    refine jv_bipush C dX5_charOf_6 (by decide +kernel) ?_
    refine jv_iload_n C dX5_charOf_8 rfl ?_
    refine jv_iadd C dX5_charOf_9 ?_
    exact jv_iret C hr hlk ⟨_, rfl, h⟩ dX5_charOf_10 ⟨rfl, rfl⟩

def wp_X5_charOrNone (a1 : Int) (Q : Int → jv_Mem → Prop) (g : jv_Mem) : Prop :=
  ((jv_r a1) ∧ (0 ≤ a1 → jv_lp2 (fun (K10 : Int → Int → jv_Mem → Prop) (x2_10 x3_10 : Int) (gl_10 : jv_Mem) => ((jv_r x3_10 ∧ jv_r (gl_10 1 1)) ∧ ((gl_10 1 1) ≤ x3_10 → Q ((-1)) gl_10) ∧ (x3_10 < (gl_10 1 1) → (((0 : Int) ≤ x3_10 ∧ x3_10 < (3 : Int)) ∧ (wp_X5_width (gl_10 2 x3_10) (fun (r_25 : Int) (g_25 : jv_Mem) => (∀ v4_29 : Int, v4_29 = x2_10 + r_25 → ((jv_r a1 ∧ jv_r v4_29) ∧ (v4_29 ≤ a1 → (∀ v3_53 : Int, v3_53 = x3_10 + 1 → K10 v4_29 v3_53 g_25)) ∧ (a1 < v4_29 → (((0 : Int) ≤ x3_10 ∧ x3_10 < (3 : Int)) ∧ (wp_X5_charOf (g_25 2 x3_10) (a1 - x2_10) (fun (r_46 : Int) (g_46 : jv_Mem) => Q r_46 g_46) g_25)))))) gl_10))))) 0 0 g) ∧ (a1 < 0 → Q ((-1)) g))
set_option maxHeartbeats 4000000 in
set_option maxRecDepth 100000 in
theorem M_X5_charOrNone {l : Launch} {s0 : State} {b0 : Addr} {D : va_G} {ids : Nat → ClassId} {ex : Option Nat} {g : jv_Mem} {a1 : Int} {Q : Int → jv_Mem → Prop} (h : wp_X5_charOrNone a1 Q g) : jv_M l s0 b0 D ids yX5_charOrNone cX5_charOrNone 5 (some .int) 1 21 0 0 ex jv_SH g [.ref (s0.heap.size + (1 : Int).toNat), jv_i a1] ex jv_SH (jv_qi Q) := by
  refine jv_M.of (by decide +kernel) rfl rfl (fun p e s m args below meth c C hml hr hlk hnm => ?_)
  replace C : jv_C p s m args c cX5_charOrNone RX5 s0 b0 D ids := C
  show jv_V p l e (jv_rm 1 21 0 0) s m args below meth c 0 0 (jv_ZM below s0 D ids ex jv_SH (jv_qi Q) args s 0 0) s0 D ids ex jv_SH g 0 [some (.ref (s0.heap.size + (1 : Int).toNat)), some (jv_i a1), none, none, none] []
  unfold wp_X5_charOrNone at h
  refine jv_iload_n C dX5_charOrNone_0 rfl ?_
  obtain ⟨hr_1, h1_1, h2_1⟩ := h
  refine jv_if_ge (tgt := 6) C hr_1 dX5_charOrNone_1 rfl (fun hc_1 => ?_) (fun hc_1 => ?_)
  · replace h := h1_1 hc_1
    refine jv_const C dX5_charOrNone_6 ?_
    refine jv_istore_n (ls' := [some (.ref (s0.heap.size + (1 : Int).toNat)), some (jv_i a1), some (jv_i 0), none, none]) C dX5_charOrNone_7 (Nat.lt_of_lt_of_eq (Nat.le_of_ble_eq_true rfl) hml) rfl ?_
    refine jv_const C dX5_charOrNone_8 ?_
    refine jv_istore_n (ls' := [some (.ref (s0.heap.size + (1 : Int).toNat)), some (jv_i a1), some (jv_i 0), some (jv_i 0), none]) C dX5_charOrNone_9 (Nat.lt_of_lt_of_eq (Nat.le_of_ble_eq_true rfl) hml) rfl ?_
    refine jv_less (ls' := [some (.ref (s0.heap.size + (1 : Int).toNat)), some (jv_i a1), some (jv_i 0), some (jv_i 0), none]) ⟨rfl, ⟨rfl, ⟨rfl, ⟨rfl, trivial⟩⟩⟩⟩ ?_
    refine jv_lp2.use h (fun (x2_10 x3_10 : Int) (gl_10 : jv_Mem) => jv_V p l e (jv_rm 1 21 0 0) s m args below meth c 0 0 (jv_ZM below s0 D ids ex jv_SH (jv_qi Q) args s 0 0) s0 D ids ex jv_SH gl_10 10 [some (.ref (s0.heap.size + (1 : Int).toNat)), some (jv_i a1), some (jv_i x2_10), some (jv_i x3_10), none] []) ?_
    intro K10 hK10 x2_10 x3_10 gl_10 h
    refine jv_iload_n C dX5_charOrNone_10 rfl ?_
    refine jv_aload_n C dX5_charOrNone_11 rfl ?_
    refine jv_geti C kf_X5_15 sS_1 rfl dX5_charOrNone_12 ?_
    obtain ⟨hr_15, h1_15, h2_15⟩ := h
    refine jv_icmp_ge (tgt := 59) C hr_15.1 hr_15.2 dX5_charOrNone_15 rfl (fun hc_15 => ?_) (fun hc_15 => ?_)
    · replace h := h1_15 hc_15
      refine jv_const C dX5_charOrNone_59 ?_
      exact jv_iret C hr hlk ⟨_, rfl, h⟩ dX5_charOrNone_60 ⟨rfl, rfl⟩
    · replace h := h2_15 hc_15
      refine jv_iload_n C dX5_charOrNone_18 rfl ?_
      refine jv_aload_n C dX5_charOrNone_19 rfl ?_
      refine jv_getr C kf_X5_9 sS_1 rfl dX5_charOrNone_20 ?_
      refine jv_iload_n C dX5_charOrNone_23 rfl ?_
      obtain ⟨hb_24, h⟩ := h
      refine jv_iald C sS_2 rfl hb_24 dX5_charOrNone_24 ?_
      refine jv_callSi C (M_X5_width h) kw_X5_19 rfl ⟨rfl, rfl⟩ (st := [jv_i x2_10]) rfl rfl ⟨rfl, rfl⟩ dX5_charOrNone_25 (fun r_25 g_25 h => ?_)
      refine jv_iadd C dX5_charOrNone_28 ?_
      refine jv_top (fun v4_29 ev4_29 => ?_)
      replace h := h v4_29 ev4_29
      refine jv_istore (ls' := [some (.ref (s0.heap.size + (1 : Int).toNat)), some (jv_i a1), some (jv_i x2_10), some (jv_i x3_10), some (jv_i v4_29)]) C dX5_charOrNone_29 (Nat.lt_of_lt_of_eq (Nat.le_of_ble_eq_true rfl) hml) rfl ?_
      refine jv_iload_n C dX5_charOrNone_31 rfl ?_
      refine jv_iload C dX5_charOrNone_32 rfl ?_
      obtain ⟨hr_34, h1_34, h2_34⟩ := h
      refine jv_icmp_ge (tgt := 50) C hr_34.1 hr_34.2 dX5_charOrNone_34 rfl (fun hc_34 => ?_) (fun hc_34 => ?_)
      · replace h := h1_34 hc_34
        refine jv_iload C dX5_charOrNone_50 rfl ?_
        refine jv_istore_n (ls' := [some (.ref (s0.heap.size + (1 : Int).toNat)), some (jv_i a1), some (jv_i v4_29), some (jv_i x3_10), some (jv_i v4_29)]) C dX5_charOrNone_52 (Nat.lt_of_lt_of_eq (Nat.le_of_ble_eq_true rfl) hml) rfl ?_
        refine jv_iincn C dX5_charOrNone_53 (Nat.lt_of_lt_of_eq (Nat.le_of_ble_eq_true rfl) hml) rfl (fun v3_53 ev3_53 => ?_)
        replace h := h v3_53 ev3_53
        refine jv_lset (ls' := [some (.ref (s0.heap.size + (1 : Int).toNat)), some (jv_i a1), some (jv_i v4_29), some (jv_i v3_53), some (jv_i v4_29)]) rfl ?_
        refine jv_goto (tgt := 10) C dX5_charOrNone_56 rfl ?_
        exact jv_less (ls' := [some (.ref (s0.heap.size + (1 : Int).toNat)), some (jv_i a1), some (jv_i v4_29), some (jv_i v3_53), none]) ⟨rfl, ⟨rfl, ⟨rfl, ⟨rfl, trivial⟩⟩⟩⟩ (hK10 _ _ _ h)
      · replace h := h2_34 hc_34
        refine jv_aload_n C dX5_charOrNone_37 rfl ?_
        refine jv_getr C kf_X5_9 sS_1 rfl dX5_charOrNone_38 ?_
        refine jv_iload_n C dX5_charOrNone_41 rfl ?_
        obtain ⟨hb_42, h⟩ := h
        refine jv_iald C sS_2 rfl hb_42 dX5_charOrNone_42 ?_
        refine jv_iload_n C dX5_charOrNone_43 rfl ?_
        refine jv_iload_n C dX5_charOrNone_44 rfl ?_
        refine jv_isub C dX5_charOrNone_45 ?_
        refine jv_callSi C (M_X5_charOf h) kw_X5_23 rfl ⟨rfl, rfl⟩ (st := []) rfl rfl ⟨rfl, rfl⟩ dX5_charOrNone_46 (fun r_46 g_46 h => ?_)
        exact jv_iret C hr hlk ⟨_, rfl, h⟩ dX5_charOrNone_49 ⟨rfl, rfl⟩
  · replace h := h2_1 hc_1
    refine jv_const C dX5_charOrNone_4 ?_
    exact jv_iret C hr hlk ⟨_, rfl, h⟩ dX5_charOrNone_5 ⟨rfl, rfl⟩

def wp_X5_code (Q : Int → jv_Mem → Prop) (g : jv_Mem) : Prop :=
  jv_lp2 (fun (K4 : Int → Int → jv_Mem → Prop) (x1_4 x2_4 : Int) (gl_4 : jv_Mem) => ((jv_r x2_4 ∧ jv_r (gl_4 1 1)) ∧ ((gl_4 1 1) ≤ x2_4 → Q x1_4 gl_4) ∧ (x2_4 < (gl_4 1 1) → (((0 : Int) ≤ x2_4 ∧ x2_4 < (3 : Int)) ∧ (∀ v1_23 : Int, v1_23 = (x1_4 * 9) + (gl_4 2 x2_4) → (∀ v2_24 : Int, v2_24 = x2_4 + 1 → K4 v1_23 v2_24 gl_4)))))) 1 0 g
set_option maxHeartbeats 4000000 in
set_option maxRecDepth 100000 in
theorem M_X5_code {l : Launch} {s0 : State} {b0 : Addr} {D : va_G} {ids : Nat → ClassId} {ex : Option Nat} {g : jv_Mem} {Q : Int → jv_Mem → Prop} (h : wp_X5_code Q g) : jv_M l s0 b0 D ids yX5_code cX5_code 3 (some .int) 0 0 0 0 ex jv_SH g [.ref (s0.heap.size + (1 : Int).toNat)] ex jv_SH (jv_qi Q) := by
  refine jv_M.of (by decide +kernel) rfl rfl (fun p e s m args below meth c C hml hr hlk hnm => ?_)
  replace C : jv_C p s m args c cX5_code RX5 s0 b0 D ids := C
  show jv_V p l e (jv_rm 0 0 0 0) s m args below meth c 0 0 (jv_ZM below s0 D ids ex jv_SH (jv_qi Q) args s 0 0) s0 D ids ex jv_SH g 0 [some (.ref (s0.heap.size + (1 : Int).toNat)), none, none] []
  unfold wp_X5_code at h
  refine jv_const C dX5_code_0 ?_
  refine jv_istore_n (ls' := [some (.ref (s0.heap.size + (1 : Int).toNat)), some (jv_i 1), none]) C dX5_code_1 (Nat.lt_of_lt_of_eq (Nat.le_of_ble_eq_true rfl) hml) rfl ?_
  refine jv_const C dX5_code_2 ?_
  refine jv_istore_n (ls' := [some (.ref (s0.heap.size + (1 : Int).toNat)), some (jv_i 1), some (jv_i 0)]) C dX5_code_3 (Nat.lt_of_lt_of_eq (Nat.le_of_ble_eq_true rfl) hml) rfl ?_
  refine jv_less (ls' := [some (.ref (s0.heap.size + (1 : Int).toNat)), some (jv_i 1), some (jv_i 0)]) ⟨rfl, ⟨rfl, ⟨rfl, trivial⟩⟩⟩ ?_
  refine jv_lp2.use h (fun (x1_4 x2_4 : Int) (gl_4 : jv_Mem) => jv_V p l e (jv_rm 0 0 0 0) s m args below meth c 0 0 (jv_ZM below s0 D ids ex jv_SH (jv_qi Q) args s 0 0) s0 D ids ex jv_SH gl_4 4 [some (.ref (s0.heap.size + (1 : Int).toNat)), some (jv_i x1_4), some (jv_i x2_4)] []) ?_
  intro K4 hK4 x1_4 x2_4 gl_4 h
  refine jv_iload_n C dX5_code_4 rfl ?_
  refine jv_aload_n C dX5_code_5 rfl ?_
  refine jv_geti C kf_X5_15 sS_1 rfl dX5_code_6 ?_
  obtain ⟨hr_9, h1_9, h2_9⟩ := h
  refine jv_icmp_ge (tgt := 30) C hr_9.1 hr_9.2 dX5_code_9 rfl (fun hc_9 => ?_) (fun hc_9 => ?_)
  · replace h := h1_9 hc_9
    refine jv_iload_n C dX5_code_30 rfl ?_
    exact jv_iret C hr hlk ⟨_, rfl, h⟩ dX5_code_31 ⟨rfl, rfl⟩
  · replace h := h2_9 hc_9
    refine jv_iload_n C dX5_code_12 rfl ?_
    refine jv_bipush C dX5_code_13 (by decide +kernel) ?_
    refine jv_imul C dX5_code_15 ?_
    refine jv_aload_n C dX5_code_16 rfl ?_
    refine jv_getr C kf_X5_9 sS_1 rfl dX5_code_17 ?_
    refine jv_iload_n C dX5_code_20 rfl ?_
    obtain ⟨hb_21, h⟩ := h
    refine jv_iald C sS_2 rfl hb_21 dX5_code_21 ?_
    refine jv_iadd C dX5_code_22 ?_
    refine jv_top (fun v1_23 ev1_23 => ?_)
    replace h := h v1_23 ev1_23
    refine jv_istore_n (ls' := [some (.ref (s0.heap.size + (1 : Int).toNat)), some (jv_i v1_23), some (jv_i x2_4)]) C dX5_code_23 (Nat.lt_of_lt_of_eq (Nat.le_of_ble_eq_true rfl) hml) rfl ?_
    refine jv_iincn C dX5_code_24 (Nat.lt_of_lt_of_eq (Nat.le_of_ble_eq_true rfl) hml) rfl (fun v2_24 ev2_24 => ?_)
    replace h := h v2_24 ev2_24
    refine jv_lset (ls' := [some (.ref (s0.heap.size + (1 : Int).toNat)), some (jv_i v1_23), some (jv_i v2_24)]) rfl ?_
    refine jv_goto (tgt := 4) C dX5_code_27 rfl ?_
    exact jv_less (ls' := [some (.ref (s0.heap.size + (1 : Int).toNat)), some (jv_i v1_23), some (jv_i v2_24)]) ⟨rfl, ⟨rfl, ⟨rfl, trivial⟩⟩⟩ (hK4 _ _ _ h)

def wp_X7_count (Q : Int → jv_Mem → Prop) (g : jv_Mem) : Prop :=
  Q (g 3 6) g
set_option maxHeartbeats 4000000 in
set_option maxRecDepth 100000 in
theorem M_X7_count {l : Launch} {s0 : State} {b0 : Addr} {D : va_G} {ids : Nat → ClassId} {ex : Option Nat} {g : jv_Mem} {Q : Int → jv_Mem → Prop} (h : wp_X7_count Q g) : jv_M l s0 b0 D ids yX7_count cX7_count 1 (some .int) 0 0 0 0 ex jv_SH g [.ref (s0.heap.size + (3 : Int).toNat)] ex jv_SH (jv_qi Q) := by
  refine jv_M.of (by decide +kernel) rfl rfl (fun p e s m args below meth c C hml hr hlk hnm => ?_)
  replace C : jv_C p s m args c cX7_count RX7 s0 b0 D ids := C
  show jv_V p l e (jv_rm 0 0 0 0) s m args below meth c 0 0 (jv_ZM below s0 D ids ex jv_SH (jv_qi Q) args s 0 0) s0 D ids ex jv_SH g 0 [some (.ref (s0.heap.size + (3 : Int).toNat))] []
  unfold wp_X7_count at h
  refine jv_aload_n C dX7_count_0 rfl ?_
  refine jv_geti C kf_X7_36 sS_3 rfl dX7_count_1 ?_
  exact jv_iret C hr hlk ⟨_, rfl, h⟩ dX7_count_4 ⟨rfl, rfl⟩

def wp_X7_inOrder (a1 : Int) (Q : Int → jv_Mem → Prop) (g : jv_Mem) : Prop :=
  (((0 : Int) ≤ a1 ∧ a1 < (30 : Int)) ∧ Q (g 7 a1) g)
set_option maxHeartbeats 4000000 in
set_option maxRecDepth 100000 in
theorem M_X7_inOrder {l : Launch} {s0 : State} {b0 : Addr} {D : va_G} {ids : Nat → ClassId} {ex : Option Nat} {g : jv_Mem} {a1 : Int} {Q : Int → jv_Mem → Prop} (h : wp_X7_inOrder a1 Q g) : jv_M l s0 b0 D ids yX7_inOrder cX7_inOrder 2 (some .int) 0 0 0 0 ex jv_SH g [.ref (s0.heap.size + (3 : Int).toNat), jv_i a1] ex jv_SH (jv_qi Q) := by
  refine jv_M.of (by decide +kernel) rfl rfl (fun p e s m args below meth c C hml hr hlk hnm => ?_)
  replace C : jv_C p s m args c cX7_inOrder RX7 s0 b0 D ids := C
  show jv_V p l e (jv_rm 0 0 0 0) s m args below meth c 0 0 (jv_ZM below s0 D ids ex jv_SH (jv_qi Q) args s 0 0) s0 D ids ex jv_SH g 0 [some (.ref (s0.heap.size + (3 : Int).toNat)), some (jv_i a1)] []
  unfold wp_X7_inOrder at h
  refine jv_aload_n C dX7_inOrder_0 rfl ?_
  refine jv_getr C kf_X7_21 sS_3 rfl dX7_inOrder_1 ?_
  refine jv_iload_n C dX7_inOrder_4 rfl ?_
  obtain ⟨hb_5, h⟩ := h
  refine jv_iald C sS_7 rfl hb_5 dX7_inOrder_5 ?_
  exact jv_iret C hr hlk ⟨_, rfl, h⟩ dX7_inOrder_6 ⟨rfl, rfl⟩

def wp_X7_letter (a1 : Int) (a2 : Int) (Q : Int → jv_Mem → Prop) (g : jv_Mem) : Prop :=
  (((0 : Int) ≤ (a1 * 3) + a2 ∧ (a1 * 3) + a2 < (90 : Int)) ∧ Q (g 5 ((a1 * 3) + a2)) g)
set_option maxHeartbeats 4000000 in
set_option maxRecDepth 100000 in
theorem M_X7_letter {l : Launch} {s0 : State} {b0 : Addr} {D : va_G} {ids : Nat → ClassId} {ex : Option Nat} {g : jv_Mem} {a1 : Int} {a2 : Int} {Q : Int → jv_Mem → Prop} (h : wp_X7_letter a1 a2 Q g) : jv_M l s0 b0 D ids yX7_letter cX7_letter 3 (some .int) 0 0 0 0 ex jv_SH g [.ref (s0.heap.size + (3 : Int).toNat), jv_i a1, jv_i a2] ex jv_SH (jv_qi Q) := by
  refine jv_M.of (by decide +kernel) rfl rfl (fun p e s m args below meth c C hml hr hlk hnm => ?_)
  replace C : jv_C p s m args c cX7_letter RX7 s0 b0 D ids := C
  show jv_V p l e (jv_rm 0 0 0 0) s m args below meth c 0 0 (jv_ZM below s0 D ids ex jv_SH (jv_qi Q) args s 0 0) s0 D ids ex jv_SH g 0 [some (.ref (s0.heap.size + (3 : Int).toNat)), some (jv_i a1), some (jv_i a2)] []
  unfold wp_X7_letter at h
  refine jv_aload_n C dX7_letter_0 rfl ?_
  refine jv_getr C kf_X7_15 sS_3 rfl dX7_letter_1 ?_
  refine jv_iload_n C dX7_letter_4 rfl ?_
  refine jv_const C dX7_letter_5 ?_
  refine jv_imul C dX7_letter_6 ?_
  refine jv_iload_n C dX7_letter_7 rfl ?_
  refine jv_iadd C dX7_letter_8 ?_
  obtain ⟨hb_9, h⟩ := h
  refine jv_iald C sS_5 rfl hb_9 dX7_letter_9 ?_
  exact jv_iret C hr hlk ⟨_, rfl, h⟩ dX7_letter_10 ⟨rfl, rfl⟩

def wp_X7_beginningWith (a1 : Int) (Q : Int → jv_Mem → Prop) (g : jv_Mem) : Prop :=
  (((0 : Int) ≤ a1 ∧ a1 < (1458 : Int)) ∧ Q (g 8 a1) g)
set_option maxHeartbeats 4000000 in
set_option maxRecDepth 100000 in
theorem M_X7_beginningWith {l : Launch} {s0 : State} {b0 : Addr} {D : va_G} {ids : Nat → ClassId} {ex : Option Nat} {g : jv_Mem} {a1 : Int} {Q : Int → jv_Mem → Prop} (h : wp_X7_beginningWith a1 Q g) : jv_M l s0 b0 D ids yX7_beginningWith cX7_beginningWith 2 (some .int) 0 0 0 0 ex jv_SH g [.ref (s0.heap.size + (3 : Int).toNat), jv_i a1] ex jv_SH (jv_qi Q) := by
  refine jv_M.of (by decide +kernel) rfl rfl (fun p e s m args below meth c C hml hr hlk hnm => ?_)
  replace C : jv_C p s m args c cX7_beginningWith RX7 s0 b0 D ids := C
  show jv_V p l e (jv_rm 0 0 0 0) s m args below meth c 0 0 (jv_ZM below s0 D ids ex jv_SH (jv_qi Q) args s 0 0) s0 D ids ex jv_SH g 0 [some (.ref (s0.heap.size + (3 : Int).toNat)), some (jv_i a1)] []
  unfold wp_X7_beginningWith at h
  refine jv_aload_n C dX7_beginningWith_0 rfl ?_
  refine jv_getr C kf_X7_24 sS_3 rfl dX7_beginningWith_1 ?_
  refine jv_iload_n C dX7_beginningWith_4 rfl ?_
  obtain ⟨hb_5, h⟩ := h
  refine jv_iald C sS_8 rfl hb_5 dX7_beginningWith_5 ?_
  exact jv_iret C hr hlk ⟨_, rfl, h⟩ dX7_beginningWith_6 ⟨rfl, rfl⟩

def wp_X7_weight (a1 : Int) (Q : Int → jv_Mem → Prop) (g : jv_Mem) : Prop :=
  (((0 : Int) ≤ a1 ∧ a1 < (30 : Int)) ∧ Q (g 6 a1) g)
set_option maxHeartbeats 4000000 in
set_option maxRecDepth 100000 in
theorem M_X7_weight {l : Launch} {s0 : State} {b0 : Addr} {D : va_G} {ids : Nat → ClassId} {ex : Option Nat} {g : jv_Mem} {a1 : Int} {Q : Int → jv_Mem → Prop} (h : wp_X7_weight a1 Q g) : jv_M l s0 b0 D ids yX7_weight cX7_weight 2 (some .int) 0 0 0 0 ex jv_SH g [.ref (s0.heap.size + (3 : Int).toNat), jv_i a1] ex jv_SH (jv_qi Q) := by
  refine jv_M.of (by decide +kernel) rfl rfl (fun p e s m args below meth c C hml hr hlk hnm => ?_)
  replace C : jv_C p s m args c cX7_weight RX7 s0 b0 D ids := C
  show jv_V p l e (jv_rm 0 0 0 0) s m args below meth c 0 0 (jv_ZM below s0 D ids ex jv_SH (jv_qi Q) args s 0 0) s0 D ids ex jv_SH g 0 [some (.ref (s0.heap.size + (3 : Int).toNat)), some (jv_i a1)] []
  unfold wp_X7_weight at h
  refine jv_aload_n C dX7_weight_0 rfl ?_
  refine jv_getr C kf_X7_18 sS_3 rfl dX7_weight_1 ?_
  refine jv_iload_n C dX7_weight_4 rfl ?_
  obtain ⟨hb_5, h⟩ := h
  refine jv_iald C sS_6 rfl hb_5 dX7_weight_5 ?_
  exact jv_iret C hr hlk ⟨_, rfl, h⟩ dX7_weight_6 ⟨rfl, rfl⟩

def wp_X7_wordOrNone (a1 : Int) (Q : Int → jv_Mem → Prop) (g : jv_Mem) : Prop :=
  (((0 : Int) ≤ a1 ∧ a1 < (1458 : Int)) ∧ Q (g 9 a1) g)
set_option maxHeartbeats 4000000 in
set_option maxRecDepth 100000 in
theorem M_X7_wordOrNone {l : Launch} {s0 : State} {b0 : Addr} {D : va_G} {ids : Nat → ClassId} {ex : Option Nat} {g : jv_Mem} {a1 : Int} {Q : Int → jv_Mem → Prop} (h : wp_X7_wordOrNone a1 Q g) : jv_M l s0 b0 D ids yX7_wordOrNone cX7_wordOrNone 2 (some .int) 0 0 0 0 ex jv_SH g [.ref (s0.heap.size + (3 : Int).toNat), jv_i a1] ex jv_SH (jv_qi Q) := by
  refine jv_M.of (by decide +kernel) rfl rfl (fun p e s m args below meth c C hml hr hlk hnm => ?_)
  replace C : jv_C p s m args c cX7_wordOrNone RX7 s0 b0 D ids := C
  show jv_V p l e (jv_rm 0 0 0 0) s m args below meth c 0 0 (jv_ZM below s0 D ids ex jv_SH (jv_qi Q) args s 0 0) s0 D ids ex jv_SH g 0 [some (.ref (s0.heap.size + (3 : Int).toNat)), some (jv_i a1)] []
  unfold wp_X7_wordOrNone at h
  refine jv_aload_n C dX7_wordOrNone_0 rfl ?_
  refine jv_getr C kf_X7_27 sS_3 rfl dX7_wordOrNone_1 ?_
  refine jv_iload_n C dX7_wordOrNone_4 rfl ?_
  obtain ⟨hb_5, h⟩ := h
  refine jv_iald C sS_9 rfl hb_5 dX7_wordOrNone_5 ?_
  exact jv_iret C hr hlk ⟨_, rfl, h⟩ dX7_wordOrNone_6 ⟨rfl, rfl⟩

def wB_X7_putInOrder_48 (a1 : Int) (Q : jv_Mem → Prop) (x2_2 : Int) (gj_48 : jv_Mem) : Prop :=
  (((0 : Int) ≤ x2_2 ∧ x2_2 < (30 : Int)) ∧ (∀ g_54 : jv_Mem, g_54 = jv_up gj_48 7 x2_2 a1 → Q g_54))
def wp_X7_putInOrder (a1 : Int) (Q : jv_Mem → Prop) (g : jv_Mem) : Prop :=
  jv_lp1 (fun (K2 : Int → jv_Mem → Prop) (x2_2 : Int) (gl_2 : jv_Mem) => ((jv_r x2_2) ∧ (x2_2 ≤ 0 → wB_X7_putInOrder_48 a1 Q x2_2 gl_2) ∧ (0 < x2_2 → (((0 : Int) ≤ x2_2 - 1 ∧ x2_2 - 1 < (30 : Int)) ∧ (((0 : Int) ≤ gl_2 7 (x2_2 - 1) ∧ gl_2 7 (x2_2 - 1) < (30 : Int)) ∧ (((0 : Int) ≤ a1 ∧ a1 < (30 : Int)) ∧ ((jv_r (gl_2 4 (gl_2 7 (x2_2 - 1))) ∧ jv_r (gl_2 4 a1)) ∧ ((gl_2 4 (gl_2 7 (x2_2 - 1))) ≤ (gl_2 4 a1) → wB_X7_putInOrder_48 a1 Q x2_2 gl_2) ∧ ((gl_2 4 a1) < (gl_2 4 (gl_2 7 (x2_2 - 1))) → (((0 : Int) ≤ x2_2 - 1 ∧ x2_2 - 1 < (30 : Int)) ∧ (((0 : Int) ≤ x2_2 ∧ x2_2 < (30 : Int)) ∧ (∀ g_41 : jv_Mem, g_41 = jv_up gl_2 7 x2_2 (gl_2 7 (x2_2 - 1)) → (∀ v2_42 : Int, v2_42 = x2_2 + (-1) → K2 v2_42 g_41)))))))))))) a1 g
set_option maxHeartbeats 4000000 in
set_option maxRecDepth 100000 in
theorem M_X7_putInOrder {l : Launch} {s0 : State} {b0 : Addr} {D : va_G} {ids : Nat → ClassId} {ex : Option Nat} {g : jv_Mem} {a1 : Int} {Q : jv_Mem → Prop} (h : wp_X7_putInOrder a1 Q g) : jv_M l s0 b0 D ids yX7_putInOrder cX7_putInOrder 3 none 0 0 0 0 ex jv_SH g [.ref (s0.heap.size + (3 : Int).toNat), jv_i a1] ex jv_SH (jv_qv Q) := by
  refine jv_M.of (by decide +kernel) rfl rfl (fun p e s m args below meth c C hml hr hlk hnm => ?_)
  replace C : jv_C p s m args c cX7_putInOrder RX7 s0 b0 D ids := C
  show jv_V p l e (jv_rm 0 0 0 0) s m args below meth c 0 0 (jv_ZM below s0 D ids ex jv_SH (jv_qv Q) args s 0 0) s0 D ids ex jv_SH g 0 [some (.ref (s0.heap.size + (3 : Int).toNat)), some (jv_i a1), none] []
  unfold wp_X7_putInOrder at h
  refine jv_iload_n C dX7_putInOrder_0 rfl ?_
  refine jv_istore_n (ls' := [some (.ref (s0.heap.size + (3 : Int).toNat)), some (jv_i a1), some (jv_i a1)]) C dX7_putInOrder_1 (Nat.lt_of_lt_of_eq (Nat.le_of_ble_eq_true rfl) hml) rfl ?_
  refine jv_less (ls' := [some (.ref (s0.heap.size + (3 : Int).toNat)), some (jv_i a1), some (jv_i a1)]) ⟨rfl, ⟨rfl, ⟨rfl, trivial⟩⟩⟩ ?_
  refine jv_lp1.use h (fun (x2_2 : Int) (gl_2 : jv_Mem) => jv_V p l e (jv_rm 0 0 0 0) s m args below meth c 0 0 (jv_ZM below s0 D ids ex jv_SH (jv_qv Q) args s 0 0) s0 D ids ex jv_SH gl_2 2 [some (.ref (s0.heap.size + (3 : Int).toNat)), some (jv_i a1), some (jv_i x2_2)] []) ?_
  intro K2 hK2 x2_2 gl_2 h
  refine jv_iload_n C dX7_putInOrder_2 rfl ?_
  have hJ48 : ∀ (gj_48 : jv_Mem), wB_X7_putInOrder_48 a1 Q x2_2 gj_48 → jv_V p l e (jv_rm 0 0 0 0) s m args below meth c 0 0 (jv_ZM below s0 D ids ex jv_SH (jv_qv Q) args s 0 0) s0 D ids ex jv_SH gj_48 48 [some (.ref (s0.heap.size + (3 : Int).toNat)), some (jv_i a1), some (jv_i x2_2)] [] := by
    intro gj_48 h
    unfold wB_X7_putInOrder_48 at h
    refine jv_aload_n C dX7_putInOrder_48 rfl ?_
    refine jv_getr C kf_X7_21 sS_3 rfl dX7_putInOrder_49 ?_
    refine jv_iload_n C dX7_putInOrder_52 rfl ?_
    refine jv_iload_n C dX7_putInOrder_53 rfl ?_
    obtain ⟨hb_54, h⟩ := h
    refine jv_iast C sS_7 rfl hb_54 dX7_putInOrder_54 (jv_gm (fun g_54 eg_54 => ?_))
    replace h := h g_54 eg_54
    exact jv_vret C hr hlk ⟨rfl, h⟩ dX7_putInOrder_55 ⟨rfl, rfl⟩
  obtain ⟨hr_3, h1_3, h2_3⟩ := h
  refine jv_if_le (tgt := 48) C hr_3 dX7_putInOrder_3 rfl (fun hc_3 => ?_) (fun hc_3 => ?_)
  · replace h := h1_3 hc_3
    exact jv_less (ls' := [some (.ref (s0.heap.size + (3 : Int).toNat)), some (jv_i a1), some (jv_i x2_2)]) ⟨rfl, ⟨rfl, ⟨rfl, trivial⟩⟩⟩ (hJ48 _ h)
  · replace h := h2_3 hc_3
    refine jv_aload_n C dX7_putInOrder_6 rfl ?_
    refine jv_getr C kf_X7_9 sS_3 rfl dX7_putInOrder_7 ?_
    refine jv_aload_n C dX7_putInOrder_10 rfl ?_
    refine jv_getr C kf_X7_21 sS_3 rfl dX7_putInOrder_11 ?_
    refine jv_iload_n C dX7_putInOrder_14 rfl ?_
    refine jv_const C dX7_putInOrder_15 ?_
    refine jv_isub C dX7_putInOrder_16 ?_
    obtain ⟨hb_17, h⟩ := h
    refine jv_iald C sS_7 rfl hb_17 dX7_putInOrder_17 ?_
    obtain ⟨hb_18, h⟩ := h
    refine jv_iald C sS_4 rfl hb_18 dX7_putInOrder_18 ?_
    refine jv_aload_n C dX7_putInOrder_19 rfl ?_
    refine jv_getr C kf_X7_9 sS_3 rfl dX7_putInOrder_20 ?_
    refine jv_iload_n C dX7_putInOrder_23 rfl ?_
    obtain ⟨hb_24, h⟩ := h
    refine jv_iald C sS_4 rfl hb_24 dX7_putInOrder_24 ?_
    obtain ⟨hr_25, h1_25, h2_25⟩ := h
    refine jv_icmp_le (tgt := 48) C hr_25.1 hr_25.2 dX7_putInOrder_25 rfl (fun hc_25 => ?_) (fun hc_25 => ?_)
    · replace h := h1_25 hc_25
      exact jv_less (ls' := [some (.ref (s0.heap.size + (3 : Int).toNat)), some (jv_i a1), some (jv_i x2_2)]) ⟨rfl, ⟨rfl, ⟨rfl, trivial⟩⟩⟩ (hJ48 _ h)
    · replace h := h2_25 hc_25
      refine jv_aload_n C dX7_putInOrder_28 rfl ?_
      refine jv_getr C kf_X7_21 sS_3 rfl dX7_putInOrder_29 ?_
      refine jv_iload_n C dX7_putInOrder_32 rfl ?_
      refine jv_aload_n C dX7_putInOrder_33 rfl ?_
      refine jv_getr C kf_X7_21 sS_3 rfl dX7_putInOrder_34 ?_
      refine jv_iload_n C dX7_putInOrder_37 rfl ?_
      refine jv_const C dX7_putInOrder_38 ?_
      refine jv_isub C dX7_putInOrder_39 ?_
      obtain ⟨hb_40, h⟩ := h
      refine jv_iald C sS_7 rfl hb_40 dX7_putInOrder_40 ?_
      obtain ⟨hb_41, h⟩ := h
      refine jv_iast C sS_7 rfl hb_41 dX7_putInOrder_41 (jv_gm (fun g_41 eg_41 => ?_))
      replace h := h g_41 eg_41
      refine jv_iincn C dX7_putInOrder_42 (Nat.lt_of_lt_of_eq (Nat.le_of_ble_eq_true rfl) hml) rfl (fun v2_42 ev2_42 => ?_)
      replace h := h v2_42 ev2_42
      refine jv_lset (ls' := [some (.ref (s0.heap.size + (3 : Int).toNat)), some (jv_i a1), some (jv_i v2_42)]) rfl ?_
      refine jv_goto (tgt := 2) C dX7_putInOrder_45 rfl ?_
      exact jv_less (ls' := [some (.ref (s0.heap.size + (3 : Int).toNat)), some (jv_i a1), some (jv_i v2_42)]) ⟨rfl, ⟨rfl, ⟨rfl, trivial⟩⟩⟩ (hK2 _ _ h)

def wp_X7_add (a1 : Int) (a2 : Int) (Q : Int → jv_Mem → Prop) (g : jv_Mem) : Prop :=
  (∀ v3_4 : Int, v3_4 = g 3 6 → (((0 : Int) ≤ v3_4 ∧ v3_4 < (30 : Int)) ∧ (∀ g_11 : jv_Mem, g_11 = jv_up g 4 v3_4 a1 → (((0 : Int) ≤ v3_4 ∧ v3_4 < (30 : Int)) ∧ (∀ g_18 : jv_Mem, g_18 = jv_up g_11 6 v3_4 a2 → (((0 : Int) ≤ a1 ∧ a1 < (1458 : Int)) ∧ (∀ g_25 : jv_Mem, g_25 = jv_up g_18 9 a1 v3_4 → (wp_X7_putInOrder v3_4 (fun (g_28 : jv_Mem) => jv_lp2 (fun (K37 : Int → Int → jv_Mem → Prop) (x4_37 x5_37 : Int) (gl_37 : jv_Mem) => ((jv_r x5_37) ∧ (x5_37 < 0 → (((0 : Int) ≤ 1 ∧ 1 < (1458 : Int)) ∧ (((0 : Int) ≤ 1 ∧ 1 < (1458 : Int)) ∧ (∀ g_91 : jv_Mem, g_91 = jv_up gl_37 8 1 ((gl_37 8 1) + 1) → (∀ g_99 : jv_Mem, g_99 = jv_up g_91 3 6 ((g_91 3 6) + 1) → Q v3_4 g_99))))) ∧ (0 ≤ x5_37 → (((0 : Int) ≤ (v3_4 * 3) + x5_37 ∧ (v3_4 * 3) + x5_37 < (90 : Int)) ∧ (∀ g_57 : jv_Mem, g_57 = jv_up gl_37 5 ((v3_4 * 3) + x5_37) (jv_rem x4_37 9) → (((0 : Int) ≤ x4_37 ∧ x4_37 < (1458 : Int)) ∧ (((0 : Int) ≤ x4_37 ∧ x4_37 < (1458 : Int)) ∧ (∀ g_68 : jv_Mem, g_68 = jv_up g_57 8 x4_37 ((g_57 8 x4_37) + 1) → (∀ v4_74 : Int, v4_74 = jv_div x4_37 9 → (∀ v5_76 : Int, v5_76 = x5_37 + (-1) → K37 v4_74 v5_76 g_68)))))))))) a1 2 g_28) g_25))))))))
set_option maxHeartbeats 4000000 in
set_option maxRecDepth 100000 in
theorem M_X7_add {l : Launch} {s0 : State} {b0 : Addr} {D : va_G} {ids : Nat → ClassId} {ex : Option Nat} {g : jv_Mem} {a1 : Int} {a2 : Int} {Q : Int → jv_Mem → Prop} (h : wp_X7_add a1 a2 Q g) : jv_M l s0 b0 D ids yX7_add cX7_add 6 (some .int) 1 22 0 0 ex jv_SH g [.ref (s0.heap.size + (3 : Int).toNat), jv_i a1, jv_i a2] ex jv_SH (jv_qi Q) := by
  refine jv_M.of (by decide +kernel) rfl rfl (fun p e s m args below meth c C hml hr hlk hnm => ?_)
  replace C : jv_C p s m args c cX7_add RX7 s0 b0 D ids := C
  show jv_V p l e (jv_rm 1 22 0 0) s m args below meth c 0 0 (jv_ZM below s0 D ids ex jv_SH (jv_qi Q) args s 0 0) s0 D ids ex jv_SH g 0 [some (.ref (s0.heap.size + (3 : Int).toNat)), some (jv_i a1), some (jv_i a2), none, none, none] []
  unfold wp_X7_add at h
  refine jv_aload_n C dX7_add_0 rfl ?_
  refine jv_geti C kf_X7_36 sS_3 rfl dX7_add_1 ?_
  refine jv_top (fun v3_4 ev3_4 => ?_)
  replace h := h v3_4 ev3_4
  refine jv_istore_n (ls' := [some (.ref (s0.heap.size + (3 : Int).toNat)), some (jv_i a1), some (jv_i a2), some (jv_i v3_4), none, none]) C dX7_add_4 (Nat.lt_of_lt_of_eq (Nat.le_of_ble_eq_true rfl) hml) rfl ?_
  refine jv_aload_n C dX7_add_5 rfl ?_
  refine jv_getr C kf_X7_9 sS_3 rfl dX7_add_6 ?_
  refine jv_iload_n C dX7_add_9 rfl ?_
  refine jv_iload_n C dX7_add_10 rfl ?_
  obtain ⟨hb_11, h⟩ := h
  refine jv_iast C sS_4 rfl hb_11 dX7_add_11 (jv_gm (fun g_11 eg_11 => ?_))
  replace h := h g_11 eg_11
  refine jv_aload_n C dX7_add_12 rfl ?_
  refine jv_getr C kf_X7_18 sS_3 rfl dX7_add_13 ?_
  refine jv_iload_n C dX7_add_16 rfl ?_
  refine jv_iload_n C dX7_add_17 rfl ?_
  obtain ⟨hb_18, h⟩ := h
  refine jv_iast C sS_6 rfl hb_18 dX7_add_18 (jv_gm (fun g_18 eg_18 => ?_))
  replace h := h g_18 eg_18
  refine jv_aload_n C dX7_add_19 rfl ?_
  refine jv_getr C kf_X7_27 sS_3 rfl dX7_add_20 ?_
  refine jv_iload_n C dX7_add_23 rfl ?_
  refine jv_iload_n C dX7_add_24 rfl ?_
  obtain ⟨hb_25, h⟩ := h
  refine jv_iast C sS_9 rfl hb_25 dX7_add_25 (jv_gm (fun g_25 eg_25 => ?_))
  replace h := h g_25 eg_25
  refine jv_aload_n C dX7_add_26 rfl ?_
  refine jv_iload_n C dX7_add_27 rfl ?_
  refine jv_callVv C (M_X7_putInOrder h) kw_X7_40 sS_3 rfl rfl ⟨rfl, rfl⟩ (st := []) rfl rfl ⟨rfl, rfl⟩ dX7_add_28 (fun g_28 h => ?_)
  refine jv_iload_n C dX7_add_31 rfl ?_
  refine jv_istore (ls' := [some (.ref (s0.heap.size + (3 : Int).toNat)), some (jv_i a1), some (jv_i a2), some (jv_i v3_4), some (jv_i a1), none]) C dX7_add_32 (Nat.lt_of_lt_of_eq (Nat.le_of_ble_eq_true rfl) hml) rfl ?_
  refine jv_const C dX7_add_34 ?_
  refine jv_istore (ls' := [some (.ref (s0.heap.size + (3 : Int).toNat)), some (jv_i a1), some (jv_i a2), some (jv_i v3_4), some (jv_i a1), some (jv_i 2)]) C dX7_add_35 (Nat.lt_of_lt_of_eq (Nat.le_of_ble_eq_true rfl) hml) rfl ?_
  refine jv_less (ls' := [some (.ref (s0.heap.size + (3 : Int).toNat)), none, none, some (jv_i v3_4), some (jv_i a1), some (jv_i 2)]) ⟨rfl, ⟨rfl, ⟨rfl, ⟨rfl, trivial⟩⟩⟩⟩ ?_
  refine jv_lp2.use h (fun (x4_37 x5_37 : Int) (gl_37 : jv_Mem) => jv_V p l e (jv_rm 1 22 0 0) s m args below meth c 0 0 (jv_ZM below s0 D ids ex jv_SH (jv_qi Q) args s 0 0) s0 D ids ex jv_SH gl_37 37 [some (.ref (s0.heap.size + (3 : Int).toNat)), none, none, some (jv_i v3_4), some (jv_i x4_37), some (jv_i x5_37)] []) ?_
  intro K37 hK37 x4_37 x5_37 gl_37 h
  refine jv_iload C dX7_add_37 rfl ?_
  obtain ⟨hr_39, h1_39, h2_39⟩ := h
  refine jv_if_lt (tgt := 82) C hr_39 dX7_add_39 rfl (fun hc_39 => ?_) (fun hc_39 => ?_)
  · replace h := h1_39 hc_39
    refine jv_aload_n C dX7_add_82 rfl ?_
    refine jv_getr C kf_X7_24 sS_3 rfl dX7_add_83 ?_
    refine jv_const C dX7_add_86 ?_
    refine jv_dup2 C rfl rfl dX7_add_87 ?_
    obtain ⟨hb_88, h⟩ := h
    refine jv_iald C sS_8 rfl hb_88 dX7_add_88 ?_
    refine jv_const C dX7_add_89 ?_
    refine jv_iadd C dX7_add_90 ?_
    obtain ⟨hb_91, h⟩ := h
    refine jv_iast C sS_8 rfl hb_91 dX7_add_91 (jv_gm (fun g_91 eg_91 => ?_))
    replace h := h g_91 eg_91
    refine jv_aload_n C dX7_add_92 rfl ?_
    refine jv_dup C rfl dX7_add_93 ?_
    refine jv_geti C kf_X7_36 sS_3 rfl dX7_add_94 ?_
    refine jv_const C dX7_add_97 ?_
    refine jv_iadd C dX7_add_98 ?_
    refine jv_puti C kf_X7_36 sS_3 rfl dX7_add_99 (jv_gm (fun g_99 eg_99 => ?_))
    replace h := h g_99 eg_99
    refine jv_iload_n C dX7_add_102 rfl ?_
    exact jv_iret C hr hlk ⟨_, rfl, h⟩ dX7_add_103 ⟨rfl, rfl⟩
  · replace h := h2_39 hc_39
    refine jv_aload_n C dX7_add_42 rfl ?_
    refine jv_getr C kf_X7_15 sS_3 rfl dX7_add_43 ?_
    refine jv_iload_n C dX7_add_46 rfl ?_
    refine jv_const C dX7_add_47 ?_
    refine jv_imul C dX7_add_48 ?_
    refine jv_iload C dX7_add_49 rfl ?_
    refine jv_iadd C dX7_add_51 ?_
    refine jv_iload C dX7_add_52 rfl ?_
    refine jv_bipush C dX7_add_54 (by decide +kernel) ?_
    refine jv_irem C (by decide +kernel) dX7_add_56 ?_
    obtain ⟨hb_57, h⟩ := h
    refine jv_iast C sS_5 rfl hb_57 dX7_add_57 (jv_gm (fun g_57 eg_57 => ?_))
    replace h := h g_57 eg_57
    refine jv_aload_n C dX7_add_58 rfl ?_
    refine jv_getr C kf_X7_24 sS_3 rfl dX7_add_59 ?_
    refine jv_iload C dX7_add_62 rfl ?_
    refine jv_dup2 C rfl rfl dX7_add_64 ?_
    obtain ⟨hb_65, h⟩ := h
    refine jv_iald C sS_8 rfl hb_65 dX7_add_65 ?_
    refine jv_const C dX7_add_66 ?_
    refine jv_iadd C dX7_add_67 ?_
    obtain ⟨hb_68, h⟩ := h
    refine jv_iast C sS_8 rfl hb_68 dX7_add_68 (jv_gm (fun g_68 eg_68 => ?_))
    replace h := h g_68 eg_68
    refine jv_iload C dX7_add_69 rfl ?_
    refine jv_bipush C dX7_add_71 (by decide +kernel) ?_
    refine jv_idiv C (by decide +kernel) dX7_add_73 ?_
    refine jv_top (fun v4_74 ev4_74 => ?_)
    replace h := h v4_74 ev4_74
    refine jv_istore (ls' := [some (.ref (s0.heap.size + (3 : Int).toNat)), none, none, some (jv_i v3_4), some (jv_i v4_74), some (jv_i x5_37)]) C dX7_add_74 (Nat.lt_of_lt_of_eq (Nat.le_of_ble_eq_true rfl) hml) rfl ?_
    refine jv_iincn C dX7_add_76 (Nat.lt_of_lt_of_eq (Nat.le_of_ble_eq_true rfl) hml) rfl (fun v5_76 ev5_76 => ?_)
    replace h := h v5_76 ev5_76
    refine jv_lset (ls' := [some (.ref (s0.heap.size + (3 : Int).toNat)), none, none, some (jv_i v3_4), some (jv_i v4_74), some (jv_i v5_76)]) rfl ?_
    refine jv_goto (tgt := 37) C dX7_add_79 rfl ?_
    exact jv_less (ls' := [some (.ref (s0.heap.size + (3 : Int).toNat)), none, none, some (jv_i v3_4), some (jv_i v4_74), some (jv_i v5_76)]) ⟨rfl, ⟨rfl, ⟨rfl, ⟨rfl, trivial⟩⟩⟩⟩ (hK37 _ _ _ h)

def wp_X7_weigh (a1 : Int) (a2 : Int) (Q : jv_Mem → Prop) (g : jv_Mem) : Prop :=
  (((0 : Int) ≤ a1 ∧ a1 < (30 : Int)) ∧ (∀ g_6 : jv_Mem, g_6 = jv_up g 6 a1 a2 → Q g_6))
set_option maxHeartbeats 4000000 in
set_option maxRecDepth 100000 in
theorem M_X7_weigh {l : Launch} {s0 : State} {b0 : Addr} {D : va_G} {ids : Nat → ClassId} {ex : Option Nat} {g : jv_Mem} {a1 : Int} {a2 : Int} {Q : jv_Mem → Prop} (h : wp_X7_weigh a1 a2 Q g) : jv_M l s0 b0 D ids yX7_weigh cX7_weigh 3 none 0 0 0 0 ex jv_SH g [.ref (s0.heap.size + (3 : Int).toNat), jv_i a1, jv_i a2] ex jv_SH (jv_qv Q) := by
  refine jv_M.of (by decide +kernel) rfl rfl (fun p e s m args below meth c C hml hr hlk hnm => ?_)
  replace C : jv_C p s m args c cX7_weigh RX7 s0 b0 D ids := C
  show jv_V p l e (jv_rm 0 0 0 0) s m args below meth c 0 0 (jv_ZM below s0 D ids ex jv_SH (jv_qv Q) args s 0 0) s0 D ids ex jv_SH g 0 [some (.ref (s0.heap.size + (3 : Int).toNat)), some (jv_i a1), some (jv_i a2)] []
  unfold wp_X7_weigh at h
  refine jv_aload_n C dX7_weigh_0 rfl ?_
  refine jv_getr C kf_X7_18 sS_3 rfl dX7_weigh_1 ?_
  refine jv_iload_n C dX7_weigh_4 rfl ?_
  refine jv_iload_n C dX7_weigh_5 rfl ?_
  obtain ⟨hb_6, h⟩ := h
  refine jv_iast C sS_6 rfl hb_6 dX7_weigh_6 (jv_gm (fun g_6 eg_6 => ?_))
  replace h := h g_6 eg_6
  exact jv_vret C hr hlk ⟨rfl, h⟩ dX7_weigh_7 ⟨rfl, rfl⟩

