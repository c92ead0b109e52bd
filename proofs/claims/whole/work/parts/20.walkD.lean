def wp_X9_thrown (Q : Int → jv_Mem → Prop) (g : jv_Mem) : Prop :=
  Q (g 126 29) g
set_option maxHeartbeats 4000000 in
set_option maxRecDepth 100000 in
theorem M_X9_thrown {l : Launch} {s0 : State} {b0 : Addr} {D : va_G} {ids : Nat → ClassId} {ex : Option Nat} {g : jv_Mem} {Q : Int → jv_Mem → Prop} (h : wp_X9_thrown Q g) : jv_M l s0 b0 D ids yX9_thrown cX9_thrown 1 (some .int) 0 0 0 0 ex jv_SH g [.ref (s0.heap.size + (126 : Int).toNat)] ex jv_SH (jv_qi Q) := by
  refine jv_M.of (by decide +kernel) rfl rfl (fun p e s m args below meth c C hml hr hlk hnm => ?_)
  replace C : jv_C p s m args c cX9_thrown RX9 s0 b0 D ids := C
  show jv_V p l e (jv_rm 0 0 0 0) s m args below meth c 0 0 (jv_ZM below s0 D ids ex jv_SH (jv_qi Q) args s 0 0) s0 D ids ex jv_SH g 0 [some (.ref (s0.heap.size + (126 : Int).toNat))] []
  unfold wp_X9_thrown at h
  refine jv_aload_n C dX9_thrown_0 rfl ?_
  refine jv_geti C kf_X9_73 sS_126 rfl dX9_thrown_1 ?_
  exact jv_iret C hr hlk ⟨_, rfl, h⟩ dX9_thrown_4 ⟨rfl, rfl⟩

def wp_X9_fails (a1 : Int) (Q : Int → jv_Mem → Prop) (g : jv_Mem) : Prop :=
  (∀ g_2 : jv_Mem, g_2 = jv_up g 126 29 a1 → Q 0 g_2)
set_option maxHeartbeats 4000000 in
set_option maxRecDepth 100000 in
theorem M_X9_fails {l : Launch} {s0 : State} {b0 : Addr} {D : va_G} {ids : Nat → ClassId} {ex : Option Nat} {g : jv_Mem} {a1 : Int} {Q : Int → jv_Mem → Prop} (h : wp_X9_fails a1 Q g) : jv_M l s0 b0 D ids yX9_fails cX9_fails 2 (some .int) 0 0 0 0 ex jv_SH g [.ref (s0.heap.size + (126 : Int).toNat), jv_i a1] ex jv_SH (jv_qi Q) := by
  refine jv_M.of (by decide +kernel) rfl rfl (fun p e s m args below meth c C hml hr hlk hnm => ?_)
  replace C : jv_C p s m args c cX9_fails RX9 s0 b0 D ids := C
  show jv_V p l e (jv_rm 0 0 0 0) s m args below meth c 0 0 (jv_ZM below s0 D ids ex jv_SH (jv_qi Q) args s 0 0) s0 D ids ex jv_SH g 0 [some (.ref (s0.heap.size + (126 : Int).toNat)), some (jv_i a1)] []
  unfold wp_X9_fails at h
  refine jv_aload_n C dX9_fails_0 rfl ?_
  refine jv_iload_n C dX9_fails_1 rfl ?_
  refine jv_puti C kf_X9_73 sS_126 rfl dX9_fails_2 (jv_gm (fun g_2 eg_2 => ?_))
  replace h := h g_2 eg_2
  refine jv_const C dX9_fails_5 ?_
  exact jv_iret C hr hlk ⟨_, rfl, h⟩ dX9_fails_6 ⟨rfl, rfl⟩

def wB_X9_in_14 (Q : Int → jv_Mem → Prop) (gj_14 : jv_Mem) : Prop :=
  Q 0 gj_14
def wp_X9_in (a0 : Int) (a1 : Int) (a2 : Int) (Q : Int → jv_Mem → Prop) (g : jv_Mem) : Prop :=
  ((jv_r a0 ∧ jv_r a1) ∧ (a0 < a1 → wB_X9_in_14 Q g) ∧ (a1 ≤ a0 → ((jv_r a0 ∧ jv_r a2) ∧ (a2 < a0 → wB_X9_in_14 Q g) ∧ (a0 ≤ a2 → Q 1 g))))
set_option maxHeartbeats 4000000 in
set_option maxRecDepth 100000 in
theorem M_X9_in {l : Launch} {s0 : State} {b0 : Addr} {D : va_G} {ids : Nat → ClassId} {ex : Option Nat} {g : jv_Mem} {a0 : Int} {a1 : Int} {a2 : Int} {Q : Int → jv_Mem → Prop} (h : wp_X9_in a0 a1 a2 Q g) : jv_M l s0 b0 D ids yX9_in cX9_in 3 (some .boolean) 0 0 0 0 ex jv_SH g [jv_i a0, jv_i a1, jv_i a2] ex jv_SH (jv_qi Q) := by
  refine jv_M.of (by decide +kernel) rfl rfl (fun p e s m args below meth c C hml hr hlk hnm => ?_)
  replace C : jv_C p s m args c cX9_in RX9 s0 b0 D ids := C
  show jv_V p l e (jv_rm 0 0 0 0) s m args below meth c 0 0 (jv_ZM below s0 D ids ex jv_SH (jv_qi Q) args s 0 0) s0 D ids ex jv_SH g 0 [some (jv_i a0), some (jv_i a1), some (jv_i a2)] []
  unfold wp_X9_in at h
  refine jv_iload_n C dX9_in_0 rfl ?_
  refine jv_iload_n C dX9_in_1 rfl ?_
  have hJ14 : ∀ (gj_14 : jv_Mem), wB_X9_in_14 Q gj_14 → jv_V p l e (jv_rm 0 0 0 0) s m args below meth c 0 0 (jv_ZM below s0 D ids ex jv_SH (jv_qi Q) args s 0 0) s0 D ids ex jv_SH gj_14 14 [none, none, none] [] := by
    intro gj_14 h
    unfold wB_X9_in_14 at h
    refine jv_const C dX9_in_14 ?_
    exact jv_zret C hr hlk rfl ⟨_, rfl, h⟩ dX9_in_15 ⟨rfl, rfl⟩
  obtain ⟨hr_2, h1_2, h2_2⟩ := h
  refine jv_icmp_lt (tgt := 14) C hr_2.1 hr_2.2 dX9_in_2 rfl (fun hc_2 => ?_) (fun hc_2 => ?_)
  · replace h := h1_2 hc_2
    exact jv_less (ls' := [none, none, none]) trivial (hJ14 _ h)
  · replace h := h2_2 hc_2
    refine jv_iload_n C dX9_in_5 rfl ?_
    refine jv_iload_n C dX9_in_6 rfl ?_
    obtain ⟨hr_7, h1_7, h2_7⟩ := h
    refine jv_icmp_gt (tgt := 14) C hr_7.1 hr_7.2 dX9_in_7 rfl (fun hc_7 => ?_) (fun hc_7 => ?_)
    · replace h := h1_7 hc_7
      exact jv_less (ls' := [none, none, none]) trivial (hJ14 _ h)
    · replace h := h2_7 hc_7
      refine jv_const C dX9_in_10 ?_
      refine jv_goto (tgt := 15) C dX9_in_11 rfl ?_
      exact jv_zret C hr hlk rfl ⟨_, rfl, h⟩ dX9_in_15 ⟨rfl, rfl⟩

def wB_X9_chars_32 (K7 : Int → Int → jv_Mem → Prop) (x1_7 : Int) (x2_7 : Int) (y0_32 : Int) (gj_32 : jv_Mem) : Prop :=
  (∀ v1_33 : Int, v1_33 = x1_7 + y0_32 → (∀ v2_34 : Int, v2_34 = x2_7 + 1 → K7 v1_33 v2_34 gj_32))
def wp_X9_chars (Q : Int → jv_Mem → Prop) (g : jv_Mem) : Prop :=
  (∀ v1_4 : Int, v1_4 = g 126 1 → jv_lp2 (fun (K7 : Int → Int → jv_Mem → Prop) (x1_7 x2_7 : Int) (gl_7 : jv_Mem) => ((jv_r x2_7 ∧ jv_r (gl_7 126 1)) ∧ ((gl_7 126 1) ≤ x2_7 → Q x1_7 gl_7) ∧ (x2_7 < (gl_7 126 1) → (((0 : Int) ≤ x2_7 ∧ x2_7 < (3 : Int)) ∧ ((jv_r (gl_7 127 x2_7)) ∧ (¬ (gl_7 127 x2_7) = 8 → wB_X9_chars_32 K7 x1_7 x2_7 0 gl_7) ∧ ((gl_7 127 x2_7) = 8 → wB_X9_chars_32 K7 x1_7 x2_7 1 gl_7)))))) v1_4 0 g)
set_option maxHeartbeats 4000000 in
set_option maxRecDepth 100000 in
theorem M_X9_chars {l : Launch} {s0 : State} {b0 : Addr} {D : va_G} {ids : Nat → ClassId} {ex : Option Nat} {g : jv_Mem} {Q : Int → jv_Mem → Prop} (h : wp_X9_chars Q g) : jv_M l s0 b0 D ids yX9_chars cX9_chars 3 (some .int) 0 0 0 0 ex jv_SH g [.ref (s0.heap.size + (126 : Int).toNat)] ex jv_SH (jv_qi Q) := by
  refine jv_M.of (by decide +kernel) rfl rfl (fun p e s m args below meth c C hml hr hlk hnm => ?_)
  replace C : jv_C p s m args c cX9_chars RX9 s0 b0 D ids := C
  show jv_V p l e (jv_rm 0 0 0 0) s m args below meth c 0 0 (jv_ZM below s0 D ids ex jv_SH (jv_qi Q) args s 0 0) s0 D ids ex jv_SH g 0 [some (.ref (s0.heap.size + (126 : Int).toNat)), none, none] []
  unfold wp_X9_chars at h
  refine jv_aload_n C dX9_chars_0 rfl ?_
  refine jv_geti C kf_X9_77 sS_126 rfl dX9_chars_1 ?_
  refine jv_top (fun v1_4 ev1_4 => ?_)
  replace h := h v1_4 ev1_4
  refine jv_istore_n (ls' := [some (.ref (s0.heap.size + (126 : Int).toNat)), some (jv_i v1_4), none]) C dX9_chars_4 (Nat.lt_of_lt_of_eq (Nat.le_of_ble_eq_true rfl) hml) rfl ?_
  refine jv_const C dX9_chars_5 ?_
  refine jv_istore_n (ls' := [some (.ref (s0.heap.size + (126 : Int).toNat)), some (jv_i v1_4), some (jv_i 0)]) C dX9_chars_6 (Nat.lt_of_lt_of_eq (Nat.le_of_ble_eq_true rfl) hml) rfl ?_
  refine jv_less (ls' := [some (.ref (s0.heap.size + (126 : Int).toNat)), some (jv_i v1_4), some (jv_i 0)]) ⟨rfl, ⟨rfl, ⟨rfl, trivial⟩⟩⟩ ?_
  refine jv_lp2.use h (fun (x1_7 x2_7 : Int) (gl_7 : jv_Mem) => jv_V p l e (jv_rm 0 0 0 0) s m args below meth c 0 0 (jv_ZM below s0 D ids ex jv_SH (jv_qi Q) args s 0 0) s0 D ids ex jv_SH gl_7 7 [some (.ref (s0.heap.size + (126 : Int).toNat)), some (jv_i x1_7), some (jv_i x2_7)] []) ?_
  intro K7 hK7 x1_7 x2_7 gl_7 h
  refine jv_iload_n C dX9_chars_7 rfl ?_
  refine jv_aload_n C dX9_chars_8 rfl ?_
  refine jv_geti C kf_X9_77 sS_126 rfl dX9_chars_9 ?_
  obtain ⟨hr_12, h1_12, h2_12⟩ := h
  refine jv_icmp_ge (tgt := 40) C hr_12.1 hr_12.2 dX9_chars_12 rfl (fun hc_12 => ?_) (fun hc_12 => ?_)
  · replace h := h1_12 hc_12
    refine jv_iload_n C dX9_chars_40 rfl ?_
    exact jv_iret C hr hlk ⟨_, rfl, h⟩ dX9_chars_41 ⟨rfl, rfl⟩
  · replace h := h2_12 hc_12
    refine jv_iload_n C dX9_chars_15 rfl ?_
    refine jv_aload_n C dX9_chars_16 rfl ?_
    refine jv_getr C kf_X9_7 sS_126 rfl dX9_chars_17 ?_
    refine jv_iload_n C dX9_chars_20 rfl ?_
    obtain ⟨hb_21, h⟩ := h
    refine jv_iald C sS_127 rfl hb_21 dX9_chars_21 ?_
    refine jv_bipush C dX9_chars_22 (by decide +kernel) ?_
    have hJ32 : ∀ (y0_32 : Int) (gj_32 : jv_Mem), wB_X9_chars_32 K7 x1_7 x2_7 y0_32 gj_32 → jv_V p l e (jv_rm 0 0 0 0) s m args below meth c 0 0 (jv_ZM below s0 D ids ex jv_SH (jv_qi Q) args s 0 0) s0 D ids ex jv_SH gj_32 32 [some (.ref (s0.heap.size + (126 : Int).toNat)), none, some (jv_i x2_7)] [jv_i y0_32, jv_i x1_7] := by
      intro y0_32 gj_32 h
      unfold wB_X9_chars_32 at h
      refine jv_iadd C dX9_chars_32 ?_
      refine jv_top (fun v1_33 ev1_33 => ?_)
      replace h := h v1_33 ev1_33
      refine jv_istore_n (ls' := [some (.ref (s0.heap.size + (126 : Int).toNat)), some (jv_i v1_33), some (jv_i x2_7)]) C dX9_chars_33 (Nat.lt_of_lt_of_eq (Nat.le_of_ble_eq_true rfl) hml) rfl ?_
      refine jv_iincn C dX9_chars_34 (Nat.lt_of_lt_of_eq (Nat.le_of_ble_eq_true rfl) hml) rfl (fun v2_34 ev2_34 => ?_)
      replace h := h v2_34 ev2_34
      refine jv_lset (ls' := [some (.ref (s0.heap.size + (126 : Int).toNat)), some (jv_i v1_33), some (jv_i v2_34)]) rfl ?_
      refine jv_goto (tgt := 7) C dX9_chars_37 rfl ?_
      exact jv_less (ls' := [some (.ref (s0.heap.size + (126 : Int).toNat)), some (jv_i v1_33), some (jv_i v2_34)]) ⟨rfl, ⟨rfl, ⟨rfl, trivial⟩⟩⟩ (hK7 _ _ _ h)
    obtain ⟨hr_24, h1_24, h2_24⟩ := h
    refine jv_icmp_ne (tgt := 31) C hr_24 ⟨by decide, by decide⟩ dX9_chars_24 rfl (fun hc_24 => ?_) (fun hc_24 => ?_)
    · replace h := h1_24 hc_24
      refine jv_const C dX9_chars_31 ?_
      exact jv_less (ls' := [some (.ref (s0.heap.size + (126 : Int).toNat)), none, some (jv_i x2_7)]) ⟨rfl, ⟨rfl, trivial⟩⟩ (hJ32 _ _ h)
    · replace h := h2_24 hc_24
      refine jv_const C dX9_chars_27 ?_
      refine jv_goto (tgt := 32) C dX9_chars_28 rfl ?_
      exact jv_less (ls' := [some (.ref (s0.heap.size + (126 : Int).toNat)), none, some (jv_i x2_7)]) ⟨rfl, ⟨rfl, trivial⟩⟩ (hJ32 _ _ h)

def wB_X9_canSpell_28 (Q : Int → jv_Mem → Prop) (y0_28 : Int) (gj_28 : jv_Mem) : Prop :=
  (∀ g_28 : jv_Mem, g_28 = jv_up gj_28 126 29 y0_28 → ((jv_r (g_28 126 29)) ∧ (¬ (g_28 126 29) = 0 → Q 0 g_28) ∧ ((g_28 126 29) = 0 → Q 1 g_28)))
def wp_X9_canSpell (a1 : Int) (Q : Int → jv_Mem → Prop) (g : jv_Mem) : Prop :=
  (wp_X9_in a1 0 8 (fun (r_5 : Int) (g_5 : jv_Mem) => ((jv_r r_5) ∧ (¬ r_5 = 0 → ((jv_r (g_5 126 1)) ∧ (¬ (g_5 126 1) = 3 → wB_X9_canSpell_28 Q 0 g_5) ∧ ((g_5 126 1) = 3 → wB_X9_canSpell_28 Q 2 g_5))) ∧ (r_5 = 0 → wB_X9_canSpell_28 Q 1 g_5))) g)
set_option maxHeartbeats 4000000 in
set_option maxRecDepth 100000 in
theorem M_X9_canSpell {l : Launch} {s0 : State} {b0 : Addr} {D : va_G} {ids : Nat → ClassId} {ex : Option Nat} {g : jv_Mem} {a1 : Int} {Q : Int → jv_Mem → Prop} (h : wp_X9_canSpell a1 Q g) : jv_M l s0 b0 D ids yX9_canSpell cX9_canSpell 2 (some .boolean) 1 22 0 0 ex jv_SH g [.ref (s0.heap.size + (126 : Int).toNat), jv_i a1] ex jv_SH (jv_qi Q) := by
  refine jv_M.of (by decide +kernel) rfl rfl (fun p e s m args below meth c C hml hr hlk hnm => ?_)
  replace C : jv_C p s m args c cX9_canSpell RX9 s0 b0 D ids := C
  show jv_V p l e (jv_rm 1 22 0 0) s m args below meth c 0 0 (jv_ZM below s0 D ids ex jv_SH (jv_qi Q) args s 0 0) s0 D ids ex jv_SH g 0 [some (.ref (s0.heap.size + (126 : Int).toNat)), some (jv_i a1)] []
  unfold wp_X9_canSpell at h
  refine jv_aload_n C dX9_canSpell_0 rfl ?_
  refine jv_iload_n C dX9_canSpell_1 rfl ?_
  refine jv_const C dX9_canSpell_2 ?_
  refine jv_bipush C dX9_canSpell_3 (by decide +kernel) ?_
  refine jv_callSi C (M_X9_in h) kw_X9_80 rfl ⟨rfl, rfl⟩ (st := [.ref (s0.heap.size + (126 : Int).toNat)]) rfl rfl ⟨rfl, rfl⟩ dX9_canSpell_5 (fun r_5 g_5 h => ?_)
  have hJ28 : ∀ (y0_28 : Int) (gj_28 : jv_Mem), wB_X9_canSpell_28 Q y0_28 gj_28 → jv_V p l e (jv_rm 1 22 0 0) s m args below meth c 0 0 (jv_ZM below s0 D ids ex jv_SH (jv_qi Q) args s 0 0) s0 D ids ex jv_SH gj_28 28 [some (.ref (s0.heap.size + (126 : Int).toNat)), none] [jv_i y0_28, .ref (s0.heap.size + (126 : Int).toNat)] := by
    intro y0_28 gj_28 h
    unfold wB_X9_canSpell_28 at h
    refine jv_puti C kf_X9_73 sS_126 rfl dX9_canSpell_28 (jv_gm (fun g_28 eg_28 => ?_))
    replace h := h g_28 eg_28
    refine jv_aload_n C dX9_canSpell_31 rfl ?_
    refine jv_geti C kf_X9_73 sS_126 rfl dX9_canSpell_32 ?_
    obtain ⟨hr_35, h1_35, h2_35⟩ := h
    refine jv_if_ne (tgt := 42) C hr_35 dX9_canSpell_35 rfl (fun hc_35 => ?_) (fun hc_35 => ?_)
    · replace h := h1_35 hc_35
      refine jv_const C dX9_canSpell_42 ?_
      exact jv_zret C hr hlk rfl ⟨_, rfl, h⟩ dX9_canSpell_43 ⟨rfl, rfl⟩
    · replace h := h2_35 hc_35
      refine jv_const C dX9_canSpell_38 ?_
      refine jv_goto (tgt := 43) C dX9_canSpell_39 rfl ?_
      exact jv_zret C hr hlk rfl ⟨_, rfl, h⟩ dX9_canSpell_43 ⟨rfl, rfl⟩
  obtain ⟨hr_8, h1_8, h2_8⟩ := h
  refine jv_if_ne (tgt := 15) C hr_8 dX9_canSpell_8 rfl (fun hc_8 => ?_) (fun hc_8 => ?_)
  · replace h := h1_8 hc_8
    refine jv_aload_n C dX9_canSpell_15 rfl ?_
    refine jv_geti C kf_X9_77 sS_126 rfl dX9_canSpell_16 ?_
    refine jv_const C dX9_canSpell_19 ?_
    obtain ⟨hr_20, h1_20, h2_20⟩ := h
    refine jv_icmp_ne (tgt := 27) C hr_20 ⟨by decide, by decide⟩ dX9_canSpell_20 rfl (fun hc_20 => ?_) (fun hc_20 => ?_)
    · replace h := h1_20 hc_20
      refine jv_const C dX9_canSpell_27 ?_
      exact jv_less (ls' := [some (.ref (s0.heap.size + (126 : Int).toNat)), none]) ⟨rfl, trivial⟩ (hJ28 _ _ h)
    · replace h := h2_20 hc_20
      refine jv_const C dX9_canSpell_23 ?_
      refine jv_goto (tgt := 28) C dX9_canSpell_24 rfl ?_
      exact jv_less (ls' := [some (.ref (s0.heap.size + (126 : Int).toNat)), none]) ⟨rfl, trivial⟩ (hJ28 _ _ h)
  · replace h := h2_8 hc_8
    refine jv_const C dX9_canSpell_11 ?_
    refine jv_goto (tgt := 28) C dX9_canSpell_12 rfl ?_
    exact jv_less (ls' := [some (.ref (s0.heap.size + (126 : Int).toNat)), none]) ⟨rfl, trivial⟩ (hJ28 _ _ h)

def wp_X9_spell (a1 : Int) (Q : Int → jv_Mem → Prop) (g : jv_Mem) : Prop :=
  (wp_X9_canSpell a1 (fun (r_2 : Int) (g_2 : jv_Mem) => ((jv_r r_2) ∧ (¬ r_2 = 0 → (((0 : Int) ≤ g_2 126 1 ∧ g_2 126 1 < (3 : Int)) ∧ (∀ g_19 : jv_Mem, g_19 = jv_up g_2 127 (g_2 126 1) a1 → (∀ g_27 : jv_Mem, g_27 = jv_up g_19 126 1 ((g_19 126 1) + 1) → (wp_X9_chars (fun (r_31 : Int) (g_31 : jv_Mem) => Q r_31 g_31) g_27))))) ∧ (r_2 = 0 → Q 0 g_2))) g)
set_option maxHeartbeats 4000000 in
set_option maxRecDepth 100000 in
theorem M_X9_spell {l : Launch} {s0 : State} {b0 : Addr} {D : va_G} {ids : Nat → ClassId} {ex : Option Nat} {g : jv_Mem} {a1 : Int} {Q : Int → jv_Mem → Prop} (h : wp_X9_spell a1 Q g) : jv_M l s0 b0 D ids yX9_spell cX9_spell 2 (some .int) 2 43 0 0 ex jv_SH g [.ref (s0.heap.size + (126 : Int).toNat), jv_i a1] ex jv_SH (jv_qi Q) := by
  refine jv_M.of (by decide +kernel) rfl rfl (fun p e s m args below meth c C hml hr hlk hnm => ?_)
  replace C : jv_C p s m args c cX9_spell RX9 s0 b0 D ids := C
  show jv_V p l e (jv_rm 2 43 0 0) s m args below meth c 0 0 (jv_ZM below s0 D ids ex jv_SH (jv_qi Q) args s 0 0) s0 D ids ex jv_SH g 0 [some (.ref (s0.heap.size + (126 : Int).toNat)), some (jv_i a1)] []
  unfold wp_X9_spell at h
  refine jv_aload_n C dX9_spell_0 rfl ?_
  refine jv_iload_n C dX9_spell_1 rfl ?_
  refine jv_callVi C (M_X9_canSpell h) kw_X9_84 sS_126 rfl rfl ⟨rfl, rfl⟩ (st := []) rfl rfl ⟨rfl, rfl⟩ dX9_spell_2 (fun r_2 g_2 h => ?_)
  obtain ⟨hr_5, h1_5, h2_5⟩ := h
  refine jv_if_ne (tgt := 10) C hr_5 dX9_spell_5 rfl (fun hc_5 => ?_) (fun hc_5 => ?_)
  · replace h := h1_5 hc_5
    refine jv_aload_n C dX9_spell_10 rfl ?_
    refine jv_getr C kf_X9_7 sS_126 rfl dX9_spell_11 ?_
    refine jv_aload_n C dX9_spell_14 rfl ?_
    refine jv_geti C kf_X9_77 sS_126 rfl dX9_spell_15 ?_
    refine jv_iload_n C dX9_spell_18 rfl ?_
    obtain ⟨hb_19, h⟩ := h
    refine jv_iast C sS_127 rfl hb_19 dX9_spell_19 (jv_gm (fun g_19 eg_19 => ?_))
    replace h := h g_19 eg_19
    refine jv_aload_n C dX9_spell_20 rfl ?_
    refine jv_dup C rfl dX9_spell_21 ?_
    refine jv_geti C kf_X9_77 sS_126 rfl dX9_spell_22 ?_
    refine jv_const C dX9_spell_25 ?_
    refine jv_iadd C dX9_spell_26 ?_
    refine jv_puti C kf_X9_77 sS_126 rfl dX9_spell_27 (jv_gm (fun g_27 eg_27 => ?_))
    replace h := h g_27 eg_27
    refine jv_aload_n C dX9_spell_30 rfl ?_
    refine jv_callVi C (M_X9_chars h) kw_X9_88 sS_126 rfl rfl ⟨rfl, rfl⟩ (st := []) rfl rfl ⟨rfl, rfl⟩ dX9_spell_31 (fun r_31 g_31 h => ?_)
    exact jv_iret C hr hlk ⟨_, rfl, h⟩ dX9_spell_34 ⟨rfl, rfl⟩
  · replace h := h2_5 hc_5
    refine jv_const C dX9_spell_8 ?_
    exact jv_iret C hr hlk ⟨_, rfl, h⟩ dX9_spell_9 ⟨rfl, rfl⟩

def wp_X9_insert (a1 : Int) (Q : Int → jv_Mem → Prop) (g : jv_Mem) : Prop :=
  (wp_X9_canSpell a1 (fun (r_2 : Int) (g_2 : jv_Mem) => ((jv_r r_2) ∧ (¬ r_2 = 0 → (∀ v2_14 : Int, v2_14 = g_2 126 1 → jv_lp1 (fun (K15 : Int → jv_Mem → Prop) (x2_15 : Int) (gl_15 : jv_Mem) => ((jv_r x2_15) ∧ (x2_15 ≤ 0 → (((0 : Int) ≤ 0 ∧ 0 < (3 : Int)) ∧ (∀ g_45 : jv_Mem, g_45 = jv_up gl_15 127 0 a1 → (∀ g_53 : jv_Mem, g_53 = jv_up g_45 126 1 ((g_45 126 1) + 1) → (wp_X9_chars (fun (r_57 : Int) (g_57 : jv_Mem) => Q r_57 g_57) g_53))))) ∧ (0 < x2_15 → (((0 : Int) ≤ x2_15 - 1 ∧ x2_15 - 1 < (3 : Int)) ∧ (((0 : Int) ≤ x2_15 ∧ x2_15 < (3 : Int)) ∧ (∀ g_32 : jv_Mem, g_32 = jv_up gl_15 127 x2_15 (gl_15 127 (x2_15 - 1)) → (∀ v2_33 : Int, v2_33 = x2_15 + (-1) → K15 v2_33 g_32))))))) v2_14 g_2)) ∧ (r_2 = 0 → Q 0 g_2))) g)
set_option maxHeartbeats 4000000 in
set_option maxRecDepth 100000 in
theorem M_X9_insert {l : Launch} {s0 : State} {b0 : Addr} {D : va_G} {ids : Nat → ClassId} {ex : Option Nat} {g : jv_Mem} {a1 : Int} {Q : Int → jv_Mem → Prop} (h : wp_X9_insert a1 Q g) : jv_M l s0 b0 D ids yX9_insert cX9_insert 3 (some .int) 2 43 0 0 ex jv_SH g [.ref (s0.heap.size + (126 : Int).toNat), jv_i a1] ex jv_SH (jv_qi Q) := by
  refine jv_M.of (by decide +kernel) rfl rfl (fun p e s m args below meth c C hml hr hlk hnm => ?_)
  replace C : jv_C p s m args c cX9_insert RX9 s0 b0 D ids := C
  show jv_V p l e (jv_rm 2 43 0 0) s m args below meth c 0 0 (jv_ZM below s0 D ids ex jv_SH (jv_qi Q) args s 0 0) s0 D ids ex jv_SH g 0 [some (.ref (s0.heap.size + (126 : Int).toNat)), some (jv_i a1), none] []
  unfold wp_X9_insert at h
  refine jv_aload_n C dX9_insert_0 rfl ?_
  refine jv_iload_n C dX9_insert_1 rfl ?_
  refine jv_callVi C (M_X9_canSpell h) kw_X9_84 sS_126 rfl rfl ⟨rfl, rfl⟩ (st := []) rfl rfl ⟨rfl, rfl⟩ dX9_insert_2 (fun r_2 g_2 h => ?_)
  obtain ⟨hr_5, h1_5, h2_5⟩ := h
  refine jv_if_ne (tgt := 10) C hr_5 dX9_insert_5 rfl (fun hc_5 => ?_) (fun hc_5 => ?_)
  · replace h := h1_5 hc_5
    refine jv_aload_n C dX9_insert_10 rfl ?_
    refine jv_geti C kf_X9_77 sS_126 rfl dX9_insert_11 ?_
    refine jv_top (fun v2_14 ev2_14 => ?_)
    replace h := h v2_14 ev2_14
    refine jv_istore_n (ls' := [some (.ref (s0.heap.size + (126 : Int).toNat)), some (jv_i a1), some (jv_i v2_14)]) C dX9_insert_14 (Nat.lt_of_lt_of_eq (Nat.le_of_ble_eq_true rfl) hml) rfl ?_
    refine jv_less (ls' := [some (.ref (s0.heap.size + (126 : Int).toNat)), some (jv_i a1), some (jv_i v2_14)]) ⟨rfl, ⟨rfl, ⟨rfl, trivial⟩⟩⟩ ?_
    refine jv_lp1.use h (fun (x2_15 : Int) (gl_15 : jv_Mem) => jv_V p l e (jv_rm 2 43 0 0) s m args below meth c 0 0 (jv_ZM below s0 D ids ex jv_SH (jv_qi Q) args s 0 0) s0 D ids ex jv_SH gl_15 15 [some (.ref (s0.heap.size + (126 : Int).toNat)), some (jv_i a1), some (jv_i x2_15)] []) ?_
    intro K15 hK15 x2_15 gl_15 h
    refine jv_iload_n C dX9_insert_15 rfl ?_
    obtain ⟨hr_16, h1_16, h2_16⟩ := h
    refine jv_if_le (tgt := 39) C hr_16 dX9_insert_16 rfl (fun hc_16 => ?_) (fun hc_16 => ?_)
    · replace h := h1_16 hc_16
      refine jv_aload_n C dX9_insert_39 rfl ?_
      refine jv_getr C kf_X9_7 sS_126 rfl dX9_insert_40 ?_
      refine jv_const C dX9_insert_43 ?_
      refine jv_iload_n C dX9_insert_44 rfl ?_
      obtain ⟨hb_45, h⟩ := h
      refine jv_iast C sS_127 rfl hb_45 dX9_insert_45 (jv_gm (fun g_45 eg_45 => ?_))
      replace h := h g_45 eg_45
      refine jv_aload_n C dX9_insert_46 rfl ?_
      refine jv_dup C rfl dX9_insert_47 ?_
      refine jv_geti C kf_X9_77 sS_126 rfl dX9_insert_48 ?_
      refine jv_const C dX9_insert_51 ?_
      refine jv_iadd C dX9_insert_52 ?_
      refine jv_puti C kf_X9_77 sS_126 rfl dX9_insert_53 (jv_gm (fun g_53 eg_53 => ?_))
      replace h := h g_53 eg_53
      refine jv_aload_n C dX9_insert_56 rfl ?_
      refine jv_callVi C (M_X9_chars h) kw_X9_88 sS_126 rfl rfl ⟨rfl, rfl⟩ (st := []) rfl rfl ⟨rfl, rfl⟩ dX9_insert_57 (fun r_57 g_57 h => ?_)
      exact jv_iret C hr hlk ⟨_, rfl, h⟩ dX9_insert_60 ⟨rfl, rfl⟩
    · replace h := h2_16 hc_16
      refine jv_aload_n C dX9_insert_19 rfl ?_
      refine jv_getr C kf_X9_7 sS_126 rfl dX9_insert_20 ?_
      refine jv_iload_n C dX9_insert_23 rfl ?_
      refine jv_aload_n C dX9_insert_24 rfl ?_
      refine jv_getr C kf_X9_7 sS_126 rfl dX9_insert_25 ?_
      refine jv_iload_n C dX9_insert_28 rfl ?_
      refine jv_const C dX9_insert_29 ?_
      refine jv_isub C dX9_insert_30 ?_
      obtain ⟨hb_31, h⟩ := h
      refine jv_iald C sS_127 rfl hb_31 dX9_insert_31 ?_
      obtain ⟨hb_32, h⟩ := h
      refine jv_iast C sS_127 rfl hb_32 dX9_insert_32 (jv_gm (fun g_32 eg_32 => ?_))
      replace h := h g_32 eg_32
      refine jv_iincn C dX9_insert_33 (Nat.lt_of_lt_of_eq (Nat.le_of_ble_eq_true rfl) hml) rfl (fun v2_33 ev2_33 => ?_)
      replace h := h v2_33 ev2_33
      refine jv_lset (ls' := [some (.ref (s0.heap.size + (126 : Int).toNat)), some (jv_i a1), some (jv_i v2_33)]) rfl ?_
      refine jv_goto (tgt := 15) C dX9_insert_36 rfl ?_
      exact jv_less (ls' := [some (.ref (s0.heap.size + (126 : Int).toNat)), some (jv_i a1), some (jv_i v2_33)]) ⟨rfl, ⟨rfl, ⟨rfl, trivial⟩⟩⟩ (hK15 _ _ h)
  · replace h := h2_5 hc_5
    refine jv_const C dX9_insert_8 ?_
    exact jv_iret C hr hlk ⟨_, rfl, h⟩ dX9_insert_9 ⟨rfl, rfl⟩

def wp_X9_turn (Q : Int → jv_Mem → Prop) (g : jv_Mem) : Prop :=
  (∀ g_2 : jv_Mem, g_2 = jv_up g 126 29 0 → jv_lp1 (fun (K7 : Int → jv_Mem → Prop) (x1_7 : Int) (gl_7 : jv_Mem) => ((jv_r x1_7 ∧ jv_r (jv_div (gl_7 126 1) 2)) ∧ ((jv_div (gl_7 126 1) 2) ≤ x1_7 → Q (gl_7 126 1) gl_7) ∧ (x1_7 < (jv_div (gl_7 126 1) 2) → (((0 : Int) ≤ x1_7 ∧ x1_7 < (3 : Int)) ∧ (∀ v2_23 : Int, v2_23 = gl_7 127 x1_7 → (((0 : Int) ≤ ((gl_7 126 1) - 1) - x1_7 ∧ ((gl_7 126 1) - 1) - x1_7 < (3 : Int)) ∧ (((0 : Int) ≤ x1_7 ∧ x1_7 < (3 : Int)) ∧ (∀ g_42 : jv_Mem, g_42 = jv_up gl_7 127 x1_7 (gl_7 127 (((gl_7 126 1) - 1) - x1_7)) → (((0 : Int) ≤ ((g_42 126 1) - 1) - x1_7 ∧ ((g_42 126 1) - 1) - x1_7 < (3 : Int)) ∧ (∀ g_56 : jv_Mem, g_56 = jv_up g_42 127 (((g_42 126 1) - 1) - x1_7) v2_23 → (∀ v1_57 : Int, v1_57 = x1_7 + 1 → K7 v1_57 g_56))))))))))) 0 g_2)
set_option maxHeartbeats 4000000 in
set_option maxRecDepth 100000 in
theorem M_X9_turn {l : Launch} {s0 : State} {b0 : Addr} {D : va_G} {ids : Nat → ClassId} {ex : Option Nat} {g : jv_Mem} {Q : Int → jv_Mem → Prop} (h : wp_X9_turn Q g) : jv_M l s0 b0 D ids yX9_turn cX9_turn 3 (some .int) 0 0 0 0 ex jv_SH g [.ref (s0.heap.size + (126 : Int).toNat)] ex jv_SH (jv_qi Q) := by
  refine jv_M.of (by decide +kernel) rfl rfl (fun p e s m args below meth c C hml hr hlk hnm => ?_)
  replace C : jv_C p s m args c cX9_turn RX9 s0 b0 D ids := C
  show jv_V p l e (jv_rm 0 0 0 0) s m args below meth c 0 0 (jv_ZM below s0 D ids ex jv_SH (jv_qi Q) args s 0 0) s0 D ids ex jv_SH g 0 [some (.ref (s0.heap.size + (126 : Int).toNat)), none, none] []
  unfold wp_X9_turn at h
  refine jv_aload_n C dX9_turn_0 rfl ?_
  refine jv_const C dX9_turn_1 ?_
  refine jv_puti C kf_X9_73 sS_126 rfl dX9_turn_2 (jv_gm (fun g_2 eg_2 => ?_))
  replace h := h g_2 eg_2
  refine jv_const C dX9_turn_5 ?_
  refine jv_istore_n (ls' := [some (.ref (s0.heap.size + (126 : Int).toNat)), some (jv_i 0), none]) C dX9_turn_6 (Nat.lt_of_lt_of_eq (Nat.le_of_ble_eq_true rfl) hml) rfl ?_
  refine jv_less (ls' := [some (.ref (s0.heap.size + (126 : Int).toNat)), some (jv_i 0), none]) ⟨rfl, ⟨rfl, trivial⟩⟩ ?_
  refine jv_lp1.use h (fun (x1_7 : Int) (gl_7 : jv_Mem) => jv_V p l e (jv_rm 0 0 0 0) s m args below meth c 0 0 (jv_ZM below s0 D ids ex jv_SH (jv_qi Q) args s 0 0) s0 D ids ex jv_SH gl_7 7 [some (.ref (s0.heap.size + (126 : Int).toNat)), some (jv_i x1_7), none] []) ?_
  intro K7 hK7 x1_7 gl_7 h
  refine jv_iload_n C dX9_turn_7 rfl ?_
  refine jv_aload_n C dX9_turn_8 rfl ?_
  refine jv_geti C kf_X9_77 sS_126 rfl dX9_turn_9 ?_
  refine jv_const C dX9_turn_12 ?_
  refine jv_idiv C (by decide +kernel) dX9_turn_13 ?_
  obtain ⟨hr_14, h1_14, h2_14⟩ := h
  refine jv_icmp_ge (tgt := 63) C hr_14.1 hr_14.2 dX9_turn_14 rfl (fun hc_14 => ?_) (fun hc_14 => ?_)
  · replace h := h1_14 hc_14
    refine jv_aload_n C dX9_turn_63 rfl ?_
    refine jv_geti C kf_X9_77 sS_126 rfl dX9_turn_64 ?_
    exact jv_iret C hr hlk ⟨_, rfl, h⟩ dX9_turn_67 ⟨rfl, rfl⟩
  · replace h := h2_14 hc_14
    refine jv_aload_n C dX9_turn_17 rfl ?_
    refine jv_getr C kf_X9_7 sS_126 rfl dX9_turn_18 ?_
    refine jv_iload_n C dX9_turn_21 rfl ?_
    obtain ⟨hb_22, h⟩ := h
    refine jv_iald C sS_127 rfl hb_22 dX9_turn_22 ?_
    refine jv_top (fun v2_23 ev2_23 => ?_)
    replace h := h v2_23 ev2_23
    refine jv_istore_n (ls' := [some (.ref (s0.heap.size + (126 : Int).toNat)), some (jv_i x1_7), some (jv_i v2_23)]) C dX9_turn_23 (Nat.lt_of_lt_of_eq (Nat.le_of_ble_eq_true rfl) hml) rfl ?_
    refine jv_aload_n C dX9_turn_24 rfl ?_
    refine jv_getr C kf_X9_7 sS_126 rfl dX9_turn_25 ?_
    refine jv_iload_n C dX9_turn_28 rfl ?_
    refine jv_aload_n C dX9_turn_29 rfl ?_
    refine jv_getr C kf_X9_7 sS_126 rfl dX9_turn_30 ?_
    refine jv_aload_n C dX9_turn_33 rfl ?_
    refine jv_geti C kf_X9_77 sS_126 rfl dX9_turn_34 ?_
    refine jv_const C dX9_turn_37 ?_
    refine jv_isub C dX9_turn_38 ?_
    refine jv_iload_n C dX9_turn_39 rfl ?_
    refine jv_isub C dX9_turn_40 ?_
    obtain ⟨hb_41, h⟩ := h
    refine jv_iald C sS_127 rfl hb_41 dX9_turn_41 ?_
    obtain ⟨hb_42, h⟩ := h
    refine jv_iast C sS_127 rfl hb_42 dX9_turn_42 (jv_gm (fun g_42 eg_42 => ?_))
    replace h := h g_42 eg_42
    refine jv_aload_n C dX9_turn_43 rfl ?_
    refine jv_getr C kf_X9_7 sS_126 rfl dX9_turn_44 ?_
    refine jv_aload_n C dX9_turn_47 rfl ?_
    refine jv_geti C kf_X9_77 sS_126 rfl dX9_turn_48 ?_
    refine jv_const C dX9_turn_51 ?_
    refine jv_isub C dX9_turn_52 ?_
    refine jv_iload_n C dX9_turn_53 rfl ?_
    refine jv_isub C dX9_turn_54 ?_
    refine jv_iload_n C dX9_turn_55 rfl ?_
    obtain ⟨hb_56, h⟩ := h
    refine jv_iast C sS_127 rfl hb_56 dX9_turn_56 (jv_gm (fun g_56 eg_56 => ?_))
    replace h := h g_56 eg_56
    refine jv_iincn C dX9_turn_57 (Nat.lt_of_lt_of_eq (Nat.le_of_ble_eq_true rfl) hml) rfl (fun v1_57 ev1_57 => ?_)
    replace h := h v1_57 ev1_57
    refine jv_lset (ls' := [some (.ref (s0.heap.size + (126 : Int).toNat)), some (jv_i v1_57), some (jv_i v2_23)]) rfl ?_
    refine jv_goto (tgt := 7) C dX9_turn_60 rfl ?_
    exact jv_less (ls' := [some (.ref (s0.heap.size + (126 : Int).toNat)), some (jv_i v1_57), none]) ⟨rfl, ⟨rfl, trivial⟩⟩ (hK7 _ _ h)

def wp_X9_clearSpelled (Q : Int → jv_Mem → Prop) (g : jv_Mem) : Prop :=
  (∀ g_2 : jv_Mem, g_2 = jv_up g 126 29 0 → (∀ v1_9 : Int, v1_9 = g_2 126 1 → (∀ g_12 : jv_Mem, g_12 = jv_up g_2 126 1 0 → Q v1_9 g_12)))
set_option maxHeartbeats 4000000 in
set_option maxRecDepth 100000 in
theorem M_X9_clearSpelled {l : Launch} {s0 : State} {b0 : Addr} {D : va_G} {ids : Nat → ClassId} {ex : Option Nat} {g : jv_Mem} {Q : Int → jv_Mem → Prop} (h : wp_X9_clearSpelled Q g) : jv_M l s0 b0 D ids yX9_clearSpelled cX9_clearSpelled 2 (some .int) 0 0 0 0 ex jv_SH g [.ref (s0.heap.size + (126 : Int).toNat)] ex jv_SH (jv_qi Q) := by
  refine jv_M.of (by decide +kernel) rfl rfl (fun p e s m args below meth c C hml hr hlk hnm => ?_)
  replace C : jv_C p s m args c cX9_clearSpelled RX9 s0 b0 D ids := C
  show jv_V p l e (jv_rm 0 0 0 0) s m args below meth c 0 0 (jv_ZM below s0 D ids ex jv_SH (jv_qi Q) args s 0 0) s0 D ids ex jv_SH g 0 [some (.ref (s0.heap.size + (126 : Int).toNat)), none] []
  unfold wp_X9_clearSpelled at h
  refine jv_aload_n C dX9_clearSpelled_0 rfl ?_
  refine jv_const C dX9_clearSpelled_1 ?_
  refine jv_puti C kf_X9_73 sS_126 rfl dX9_clearSpelled_2 (jv_gm (fun g_2 eg_2 => ?_))
  replace h := h g_2 eg_2
  refine jv_aload_n C dX9_clearSpelled_5 rfl ?_
  refine jv_geti C kf_X9_77 sS_126 rfl dX9_clearSpelled_6 ?_
  refine jv_top (fun v1_9 ev1_9 => ?_)
  replace h := h v1_9 ev1_9
  refine jv_istore_n (ls' := [some (.ref (s0.heap.size + (126 : Int).toNat)), some (jv_i v1_9)]) C dX9_clearSpelled_9 (Nat.lt_of_lt_of_eq (Nat.le_of_ble_eq_true rfl) hml) rfl ?_
  refine jv_aload_n C dX9_clearSpelled_10 rfl ?_
  refine jv_const C dX9_clearSpelled_11 ?_
  refine jv_puti C kf_X9_77 sS_126 rfl dX9_clearSpelled_12 (jv_gm (fun g_12 eg_12 => ?_))
  replace h := h g_12 eg_12
  refine jv_iload_n C dX9_clearSpelled_15 rfl ?_
  exact jv_iret C hr hlk ⟨_, rfl, h⟩ dX9_clearSpelled_16 ⟨rfl, rfl⟩

def wB_X9_charAt_99 (K27 : Int → Int → jv_Mem → Prop) (x3_27 : Int) (x2_99 : Int) (gj_99 : jv_Mem) : Prop :=
  (∀ v3_99 : Int, v3_99 = x3_27 + 1 → K27 x2_99 v3_99 gj_99)
def wB_X9_charAt_20 (a1 : Int) (Q : Int → jv_Mem → Prop) (y0_20 : Int) (gj_20 : jv_Mem) : Prop :=
  (∀ g_20 : jv_Mem, g_20 = jv_up gj_20 126 29 y0_20 → jv_lp2 (fun (K27 : Int → Int → jv_Mem → Prop) (x2_27 x3_27 : Int) (gl_27 : jv_Mem) => ((jv_r x3_27 ∧ jv_r (gl_27 126 1)) ∧ ((gl_27 126 1) ≤ x3_27 → Q 0 gl_27) ∧ (x3_27 < (gl_27 126 1) → ((jv_r (gl_27 126 29)) ∧ (¬ (gl_27 126 29) = 0 → Q 0 gl_27) ∧ ((gl_27 126 29) = 0 → ((jv_r x2_27 ∧ jv_r a1) ∧ (¬ x2_27 = a1 → (∀ v2_74 : Int, v2_74 = x2_27 + 1 → (((0 : Int) ≤ x3_27 ∧ x3_27 < (3 : Int)) ∧ ((jv_r (gl_27 127 x3_27)) ∧ (¬ (gl_27 127 x3_27) = 8 → wB_X9_charAt_99 K27 x3_27 v2_74 gl_27) ∧ ((gl_27 127 x3_27) = 8 → ((jv_r v2_74 ∧ jv_r a1) ∧ (¬ v2_74 = a1 → (∀ v2_96 : Int, v2_96 = v2_74 + 1 → wB_X9_charAt_99 K27 x3_27 v2_96 gl_27)) ∧ (v2_74 = a1 → (((0 : Int) ≤ 56606 ∧ 56606 < (65536 : Int)) ∧ Q 56606 gl_27)))))))) ∧ (x2_27 = a1 → (((0 : Int) ≤ x3_27 ∧ x3_27 < (3 : Int)) ∧ ((jv_r (gl_27 127 x3_27)) ∧ (¬ (gl_27 127 x3_27) = 8 → (((0 : Int) ≤ x3_27 ∧ x3_27 < (3 : Int)) ∧ ((0 ≤ 97 + (gl_27 127 x3_27) ∧ 97 + (gl_27 127 x3_27) < 65536) ∧ (((0 : Int) ≤ 97 + (gl_27 127 x3_27) ∧ 97 + (gl_27 127 x3_27) < (65536 : Int)) ∧ Q (97 + (gl_27 127 x3_27)) gl_27)))) ∧ ((gl_27 127 x3_27) = 8 → (((0 : Int) ≤ 55348 ∧ 55348 < (65536 : Int)) ∧ Q 55348 gl_27))))))))))) 0 0 g_20)
def wp_X9_charAt (a1 : Int) (Q : Int → jv_Mem → Prop) (g : jv_Mem) : Prop :=
  (wp_X9_chars (fun (r_4 : Int) (g_4 : jv_Mem) => (wp_X9_in a1 0 (r_4 - 1) (fun (r_9 : Int) (g_9 : jv_Mem) => ((jv_r r_9) ∧ (r_9 = 0 → wB_X9_charAt_20 a1 Q 1 g_9) ∧ (¬ r_9 = 0 → wB_X9_charAt_20 a1 Q 0 g_9))) g_4)) g)
set_option maxHeartbeats 4000000 in
set_option maxRecDepth 100000 in
theorem M_X9_charAt {l : Launch} {s0 : State} {b0 : Addr} {D : va_G} {ids : Nat → ClassId} {ex : Option Nat} {g : jv_Mem} {a1 : Int} {Q : Int → jv_Mem → Prop} (h : wp_X9_charAt a1 Q g) : jv_M l s0 b0 D ids yX9_charAt cX9_charAt 4 (some .char) 1 22 0 0 ex jv_SH g [.ref (s0.heap.size + (126 : Int).toNat), jv_i a1] ex jv_SH (jv_qi Q) := by
  refine jv_M.of (by decide +kernel) rfl rfl (fun p e s m args below meth c C hml hr hlk hnm => ?_)
  replace C : jv_C p s m args c cX9_charAt RX9 s0 b0 D ids := C
  show jv_V p l e (jv_rm 1 22 0 0) s m args below meth c 0 0 (jv_ZM below s0 D ids ex jv_SH (jv_qi Q) args s 0 0) s0 D ids ex jv_SH g 0 [some (.ref (s0.heap.size + (126 : Int).toNat)), some (jv_i a1), none, none] []
  unfold wp_X9_charAt at h
  refine jv_aload_n C dX9_charAt_0 rfl ?_
  refine jv_iload_n C dX9_charAt_1 rfl ?_
  refine jv_const C dX9_charAt_2 ?_
  refine jv_aload_n C dX9_charAt_3 rfl ?_
  refine jv_callVi C (M_X9_chars h) kw_X9_88 sS_126 rfl rfl ⟨rfl, rfl⟩ (st := [jv_i 0, jv_i a1, .ref (s0.heap.size + (126 : Int).toNat)]) rfl rfl ⟨rfl, rfl⟩ dX9_charAt_4 (fun r_4 g_4 h => ?_)
  refine jv_const C dX9_charAt_7 ?_
  refine jv_isub C dX9_charAt_8 ?_
  refine jv_callSi C (M_X9_in h) kw_X9_80 rfl ⟨rfl, rfl⟩ (st := [.ref (s0.heap.size + (126 : Int).toNat)]) rfl rfl ⟨rfl, rfl⟩ dX9_charAt_9 (fun r_9 g_9 h => ?_)
  have hJ20 : ∀ (y0_20 : Int) (gj_20 : jv_Mem), wB_X9_charAt_20 a1 Q y0_20 gj_20 → jv_V p l e (jv_rm 1 22 0 0) s m args below meth c 0 0 (jv_ZM below s0 D ids ex jv_SH (jv_qi Q) args s 0 0) s0 D ids ex jv_SH gj_20 20 [some (.ref (s0.heap.size + (126 : Int).toNat)), some (jv_i a1), none, none] [jv_i y0_20, .ref (s0.heap.size + (126 : Int).toNat)] := by
    intro y0_20 gj_20 h
    unfold wB_X9_charAt_20 at h
    refine jv_puti C kf_X9_73 sS_126 rfl dX9_charAt_20 (jv_gm (fun g_20 eg_20 => ?_))
    replace h := h g_20 eg_20
    refine jv_const C dX9_charAt_23 ?_
    refine jv_istore_n (ls' := [some (.ref (s0.heap.size + (126 : Int).toNat)), some (jv_i a1), some (jv_i 0), none]) C dX9_charAt_24 (Nat.lt_of_lt_of_eq (Nat.le_of_ble_eq_true rfl) hml) rfl ?_
    refine jv_const C dX9_charAt_25 ?_
    refine jv_istore_n (ls' := [some (.ref (s0.heap.size + (126 : Int).toNat)), some (jv_i a1), some (jv_i 0), some (jv_i 0)]) C dX9_charAt_26 (Nat.lt_of_lt_of_eq (Nat.le_of_ble_eq_true rfl) hml) rfl ?_
    refine jv_less (ls' := [some (.ref (s0.heap.size + (126 : Int).toNat)), some (jv_i a1), some (jv_i 0), some (jv_i 0)]) ⟨rfl, ⟨rfl, ⟨rfl, ⟨rfl, trivial⟩⟩⟩⟩ ?_
    refine jv_lp2.use h (fun (x2_27 x3_27 : Int) (gl_27 : jv_Mem) => jv_V p l e (jv_rm 1 22 0 0) s m args below meth c 0 0 (jv_ZM below s0 D ids ex jv_SH (jv_qi Q) args s 0 0) s0 D ids ex jv_SH gl_27 27 [some (.ref (s0.heap.size + (126 : Int).toNat)), some (jv_i a1), some (jv_i x2_27), some (jv_i x3_27)] []) ?_
    intro K27 hK27 x2_27 x3_27 gl_27 h
    refine jv_iload_n C dX9_charAt_27 rfl ?_
    refine jv_aload_n C dX9_charAt_28 rfl ?_
    refine jv_geti C kf_X9_77 sS_126 rfl dX9_charAt_29 ?_
    obtain ⟨hr_32, h1_32, h2_32⟩ := h
    refine jv_icmp_ge (tgt := 105) C hr_32.1 hr_32.2 dX9_charAt_32 rfl (fun hc_32 => ?_) (fun hc_32 => ?_)
    · replace h := h1_32 hc_32
      refine jv_const C dX9_charAt_105 ?_
      exact jv_zret C hr hlk rfl ⟨_, rfl, h⟩ dX9_charAt_106 ⟨rfl, rfl⟩
    · replace h := h2_32 hc_32
      refine jv_aload_n C dX9_charAt_35 rfl ?_
      refine jv_geti C kf_X9_73 sS_126 rfl dX9_charAt_36 ?_
      obtain ⟨hr_39, h1_39, h2_39⟩ := h
      refine jv_if_ne (tgt := 105) C hr_39 dX9_charAt_39 rfl (fun hc_39 => ?_) (fun hc_39 => ?_)
      · replace h := h1_39 hc_39
        refine jv_const C dX9_charAt_105 ?_
        exact jv_zret C hr hlk rfl ⟨_, rfl, h⟩ dX9_charAt_106 ⟨rfl, rfl⟩
      · replace h := h2_39 hc_39
        refine jv_iload_n C dX9_charAt_42 rfl ?_
        refine jv_iload_n C dX9_charAt_43 rfl ?_
        obtain ⟨hr_44, h1_44, h2_44⟩ := h
        refine jv_icmp_ne (tgt := 74) C hr_44.1 hr_44.2 dX9_charAt_44 rfl (fun hc_44 => ?_) (fun hc_44 => ?_)
        · replace h := h1_44 hc_44
          refine jv_iincn C dX9_charAt_74 (Nat.lt_of_lt_of_eq (Nat.le_of_ble_eq_true rfl) hml) rfl (fun v2_74 ev2_74 => ?_)
          replace h := h v2_74 ev2_74
          refine jv_lset (ls' := [some (.ref (s0.heap.size + (126 : Int).toNat)), some (jv_i a1), some (jv_i v2_74), some (jv_i x3_27)]) rfl ?_
          refine jv_aload_n C dX9_charAt_77 rfl ?_
          refine jv_getr C kf_X9_7 sS_126 rfl dX9_charAt_78 ?_
          refine jv_iload_n C dX9_charAt_81 rfl ?_
          obtain ⟨hb_82, h⟩ := h
          refine jv_iald C sS_127 rfl hb_82 dX9_charAt_82 ?_
          refine jv_bipush C dX9_charAt_83 (by decide +kernel) ?_
          have hJ99 : ∀ (x2_99 : Int) (gj_99 : jv_Mem), wB_X9_charAt_99 K27 x3_27 x2_99 gj_99 → jv_V p l e (jv_rm 1 22 0 0) s m args below meth c 0 0 (jv_ZM below s0 D ids ex jv_SH (jv_qi Q) args s 0 0) s0 D ids ex jv_SH gj_99 99 [some (.ref (s0.heap.size + (126 : Int).toNat)), some (jv_i a1), some (jv_i x2_99), some (jv_i x3_27)] [] := by
            intro x2_99 gj_99 h
            unfold wB_X9_charAt_99 at h
            refine jv_iincn C dX9_charAt_99 (Nat.lt_of_lt_of_eq (Nat.le_of_ble_eq_true rfl) hml) rfl (fun v3_99 ev3_99 => ?_)
            replace h := h v3_99 ev3_99
            refine jv_lset (ls' := [some (.ref (s0.heap.size + (126 : Int).toNat)), some (jv_i a1), some (jv_i x2_99), some (jv_i v3_99)]) rfl ?_
            refine jv_goto (tgt := 27) C dX9_charAt_102 rfl ?_
            exact jv_less (ls' := [some (.ref (s0.heap.size + (126 : Int).toNat)), some (jv_i a1), some (jv_i x2_99), some (jv_i v3_99)]) ⟨rfl, ⟨rfl, ⟨rfl, ⟨rfl, trivial⟩⟩⟩⟩ (hK27 _ _ _ h)
          obtain ⟨hr_85, h1_85, h2_85⟩ := h
          refine jv_icmp_ne (tgt := 99) C hr_85 ⟨by decide, by decide⟩ dX9_charAt_85 rfl (fun hc_85 => ?_) (fun hc_85 => ?_)
          · replace h := h1_85 hc_85
            exact jv_less (ls' := [some (.ref (s0.heap.size + (126 : Int).toNat)), some (jv_i a1), some (jv_i v2_74), some (jv_i x3_27)]) ⟨rfl, ⟨rfl, ⟨rfl, ⟨rfl, trivial⟩⟩⟩⟩ (hJ99 _ _ h)
          · replace h := h2_85 hc_85
            refine jv_iload_n C dX9_charAt_88 rfl ?_
            refine jv_iload_n C dX9_charAt_89 rfl ?_
            obtain ⟨hr_90, h1_90, h2_90⟩ := h
            refine jv_icmp_ne (tgt := 96) C hr_90.1 hr_90.2 dX9_charAt_90 rfl (fun hc_90 => ?_) (fun hc_90 => ?_)
            · replace h := h1_90 hc_90
              refine jv_iincn C dX9_charAt_96 (Nat.lt_of_lt_of_eq (Nat.le_of_ble_eq_true rfl) hml) rfl (fun v2_96 ev2_96 => ?_)
              replace h := h v2_96 ev2_96
              refine jv_lset (ls' := [some (.ref (s0.heap.size + (126 : Int).toNat)), some (jv_i a1), some (jv_i v2_96), some (jv_i x3_27)]) rfl ?_
              exact jv_less (ls' := [some (.ref (s0.heap.size + (126 : Int).toNat)), some (jv_i a1), some (jv_i v2_96), some (jv_i x3_27)]) ⟨rfl, ⟨rfl, ⟨rfl, ⟨rfl, trivial⟩⟩⟩⟩ (hJ99 _ _ h)
            · replace h := h2_90 hc_90
              refine jv_ldc (n := 56606) C dX9_charAt_93 kc_X9_93 ?_
              obtain ⟨hz_95, h⟩ := h
              exact jv_zret C hr hlk (jv_nc hz_95) ⟨_, rfl, h⟩ dX9_charAt_95 ⟨rfl, rfl⟩
        · replace h := h2_44 hc_44
          refine jv_aload_n C dX9_charAt_47 rfl ?_
          refine jv_getr C kf_X9_7 sS_126 rfl dX9_charAt_48 ?_
          refine jv_iload_n C dX9_charAt_51 rfl ?_
          obtain ⟨hb_52, h⟩ := h
          refine jv_iald C sS_127 rfl hb_52 dX9_charAt_52 ?_
          refine jv_bipush C dX9_charAt_53 (by decide +kernel) ?_
          obtain ⟨hr_55, h1_55, h2_55⟩ := h
          refine jv_icmp_ne (tgt := 63) C hr_55 ⟨by decide, by decide⟩ dX9_charAt_55 rfl (fun hc_55 => ?_) (fun hc_55 => ?_)
          · replace h := h1_55 hc_55
            refine jv_bipush C dX9_charAt_63 (by decide +kernel) ?_
            refine jv_aload_n C dX9_charAt_65 rfl ?_
            refine jv_getr C kf_X9_7 sS_126 rfl dX9_charAt_66 ?_
            refine jv_iload_n C dX9_charAt_69 rfl ?_
            obtain ⟨hb_70, h⟩ := h
            refine jv_iald C sS_127 rfl hb_70 dX9_charAt_70 ?_
            refine jv_iadd C dX9_charAt_71 ?_
            obtain ⟨hb_72, h⟩ := h
            refine jv_i2c C hb_72 dX9_charAt_72 ?_
            obtain ⟨hz_73, h⟩ := h
            exact jv_zret C hr hlk (jv_nc hz_73) ⟨_, rfl, h⟩ dX9_charAt_73 ⟨rfl, rfl⟩
          · replace h := h2_55 hc_55
            refine jv_ldc (n := 55348) C dX9_charAt_58 kc_X9_92 ?_
            refine jv_goto (tgt := 73) C dX9_charAt_60 rfl ?_
            obtain ⟨hz_73, h⟩ := h
            exact jv_zret C hr hlk (jv_nc hz_73) ⟨_, rfl, h⟩ dX9_charAt_73 ⟨rfl, rfl⟩
  obtain ⟨hr_12, h1_12, h2_12⟩ := h
  refine jv_if_eq (tgt := 19) C hr_12 dX9_charAt_12 rfl (fun hc_12 => ?_) (fun hc_12 => ?_)
  · replace h := h1_12 hc_12
    refine jv_const C dX9_charAt_19 ?_
    exact jv_less (ls' := [some (.ref (s0.heap.size + (126 : Int).toNat)), some (jv_i a1), none, none]) ⟨rfl, ⟨rfl, trivial⟩⟩ (hJ20 _ _ h)
  · replace h := h2_12 hc_12
    refine jv_const C dX9_charAt_15 ?_
    refine jv_goto (tgt := 20) C dX9_charAt_16 rfl ?_
    exact jv_less (ls' := [some (.ref (s0.heap.size + (126 : Int).toNat)), some (jv_i a1), none, none]) ⟨rfl, ⟨rfl, trivial⟩⟩ (hJ20 _ _ h)

def wp_X9_isWord (a1 : Int) (Q : Int → jv_Mem → Prop) (g : jv_Mem) : Prop :=
  (wp_X9_in a1 0 ((g 126 2) - 1) (fun (r_8 : Int) (g_8 : jv_Mem) => ((r_8 = 0 ∨ r_8 = 1) ∧ Q r_8 g_8)) g)
set_option maxHeartbeats 4000000 in
set_option maxRecDepth 100000 in
theorem M_X9_isWord {l : Launch} {s0 : State} {b0 : Addr} {D : va_G} {ids : Nat → ClassId} {ex : Option Nat} {g : jv_Mem} {a1 : Int} {Q : Int → jv_Mem → Prop} (h : wp_X9_isWord a1 Q g) : jv_M l s0 b0 D ids yX9_isWord cX9_isWord 2 (some .boolean) 1 22 0 0 ex jv_SH g [.ref (s0.heap.size + (126 : Int).toNat), jv_i a1] ex jv_SH (jv_qi Q) := by
  refine jv_M.of (by decide +kernel) rfl rfl (fun p e s m args below meth c C hml hr hlk hnm => ?_)
  replace C : jv_C p s m args c cX9_isWord RX9 s0 b0 D ids := C
  show jv_V p l e (jv_rm 1 22 0 0) s m args below meth c 0 0 (jv_ZM below s0 D ids ex jv_SH (jv_qi Q) args s 0 0) s0 D ids ex jv_SH g 0 [some (.ref (s0.heap.size + (126 : Int).toNat)), some (jv_i a1)] []
  unfold wp_X9_isWord at h
  refine jv_iload_n C dX9_isWord_0 rfl ?_
  refine jv_const C dX9_isWord_1 ?_
  refine jv_aload_n C dX9_isWord_2 rfl ?_
  refine jv_geti C kf_X9_94 sS_126 rfl dX9_isWord_3 ?_
  refine jv_const C dX9_isWord_6 ?_
  refine jv_isub C dX9_isWord_7 ?_
  refine jv_callSi C (M_X9_in h) kw_X9_80 rfl ⟨rfl, rfl⟩ (st := []) rfl rfl ⟨rfl, rfl⟩ dX9_isWord_8 (fun r_8 g_8 h => ?_)
  obtain ⟨hz_11, h⟩ := h
  exact jv_zret C hr hlk (jv_nz hz_11) ⟨_, rfl, h⟩ dX9_isWord_11 ⟨rfl, rfl⟩

def wB_X9_addWord_81 (Q : Int → jv_Mem → Prop) (gj_81 : jv_Mem) : Prop :=
  (wp_X9_fails 2 (fun (r_83 : Int) (g_83 : jv_Mem) => Q r_83 g_83) gj_81)
def wB_X9_addWord_16 (a1 : Int) (Q : Int → jv_Mem → Prop) (y0_16 : Int) (gj_16 : jv_Mem) : Prop :=
  (∀ g_16 : jv_Mem, g_16 = jv_up gj_16 126 29 y0_16 → ((jv_r (g_16 126 29)) ∧ ((g_16 126 29) ≤ 0 → (((0 : Int) ≤ 0 ∧ 0 < (3 : Int)) ∧ (((0 : Int) ≤ 1 ∧ 1 < (3 : Int)) ∧ (((0 : Int) ≤ 2 ∧ 2 < (3 : Int)) ∧ (∀ v2_54 : Int, v2_54 = ((81 * (g_16 127 0)) + (9 * (g_16 127 1))) + (g_16 127 2) → ((jv_r (g_16 126 1)) ∧ (¬ (g_16 126 1) = 3 → wB_X9_addWord_81 Q g_16) ∧ ((g_16 126 1) = 3 → (((0 : Int) ≤ v2_54 ∧ v2_54 < (729 : Int)) ∧ ((jv_r (g_16 128 v2_54)) ∧ (0 < (g_16 128 v2_54) → wB_X9_addWord_81 Q g_16) ∧ ((g_16 128 v2_54) ≤ 0 → ((jv_r (g_16 126 2)) ∧ (¬ (g_16 126 2) = 30 → (((0 : Int) ≤ g_16 126 2 ∧ g_16 126 2 < (30 : Int)) ∧ (∀ g_96 : jv_Mem, g_96 = jv_up g_16 129 (g_16 126 2) v2_54 → (((0 : Int) ≤ g_96 126 2 ∧ g_96 126 2 < (30 : Int)) ∧ (∀ g_106 : jv_Mem, g_106 = jv_up g_96 130 (g_96 126 2) a1 → (∀ g_114 : jv_Mem, g_114 = jv_up g_106 126 2 ((g_106 126 2) + 1) → (((0 : Int) ≤ v2_54 ∧ v2_54 < (729 : Int)) ∧ (∀ g_126 : jv_Mem, g_126 = jv_up g_114 128 v2_54 (g_114 126 2) → Q ((g_126 126 2) - 1) g_126)))))))) ∧ ((g_16 126 2) = 30 → wB_X9_addWord_81 Q g_16)))))))))))) ∧ (0 < (g_16 126 29) → Q 0 g_16)))
def wp_X9_addWord (a1 : Int) (Q : Int → jv_Mem → Prop) (g : jv_Mem) : Prop :=
  (wp_X9_in a1 0 99 (fun (r_5 : Int) (g_5 : jv_Mem) => ((jv_r r_5) ∧ (r_5 = 0 → wB_X9_addWord_16 a1 Q 1 g_5) ∧ (¬ r_5 = 0 → wB_X9_addWord_16 a1 Q 0 g_5))) g)
set_option maxHeartbeats 4000000 in
set_option maxRecDepth 100000 in
theorem M_X9_addWord {l : Launch} {s0 : State} {b0 : Addr} {D : va_G} {ids : Nat → ClassId} {ex : Option Nat} {g : jv_Mem} {a1 : Int} {Q : Int → jv_Mem → Prop} (h : wp_X9_addWord a1 Q g) : jv_M l s0 b0 D ids yX9_addWord cX9_addWord 3 (some .int) 1 22 0 0 ex jv_SH g [.ref (s0.heap.size + (126 : Int).toNat), jv_i a1] ex jv_SH (jv_qi Q) := by
  refine jv_M.of (by decide +kernel) rfl rfl (fun p e s m args below meth c C hml hr hlk hnm => ?_)
  replace C : jv_C p s m args c cX9_addWord RX9 s0 b0 D ids := C
  show jv_V p l e (jv_rm 1 22 0 0) s m args below meth c 0 0 (jv_ZM below s0 D ids ex jv_SH (jv_qi Q) args s 0 0) s0 D ids ex jv_SH g 0 [some (.ref (s0.heap.size + (126 : Int).toNat)), some (jv_i a1), none] []
  unfold wp_X9_addWord at h
  refine jv_aload_n C dX9_addWord_0 rfl ?_
  refine jv_iload_n C dX9_addWord_1 rfl ?_
  refine jv_const C dX9_addWord_2 ?_
  refine jv_bipush C dX9_addWord_3 (by decide +kernel) ?_
  refine jv_callSi C (M_X9_in h) kw_X9_80 rfl ⟨rfl, rfl⟩ (st := [.ref (s0.heap.size + (126 : Int).toNat)]) rfl rfl ⟨rfl, rfl⟩ dX9_addWord_5 (fun r_5 g_5 h => ?_)
  have hJ16 : ∀ (y0_16 : Int) (gj_16 : jv_Mem), wB_X9_addWord_16 a1 Q y0_16 gj_16 → jv_V p l e (jv_rm 1 22 0 0) s m args below meth c 0 0 (jv_ZM below s0 D ids ex jv_SH (jv_qi Q) args s 0 0) s0 D ids ex jv_SH gj_16 16 [some (.ref (s0.heap.size + (126 : Int).toNat)), some (jv_i a1), none] [jv_i y0_16, .ref (s0.heap.size + (126 : Int).toNat)] := by
    intro y0_16 gj_16 h
    unfold wB_X9_addWord_16 at h
    refine jv_puti C kf_X9_73 sS_126 rfl dX9_addWord_16 (jv_gm (fun g_16 eg_16 => ?_))
    replace h := h g_16 eg_16
    refine jv_aload_n C dX9_addWord_19 rfl ?_
    refine jv_geti C kf_X9_73 sS_126 rfl dX9_addWord_20 ?_
    obtain ⟨hr_23, h1_23, h2_23⟩ := h
    refine jv_if_le (tgt := 28) C hr_23 dX9_addWord_23 rfl (fun hc_23 => ?_) (fun hc_23 => ?_)
    · replace h := h1_23 hc_23
      refine jv_bipush C dX9_addWord_28 (by decide +kernel) ?_
      refine jv_aload_n C dX9_addWord_30 rfl ?_
      refine jv_getr C kf_X9_7 sS_126 rfl dX9_addWord_31 ?_
      refine jv_const C dX9_addWord_34 ?_
      obtain ⟨hb_35, h⟩ := h
      refine jv_iald C sS_127 rfl hb_35 dX9_addWord_35 ?_
      refine jv_imul C dX9_addWord_36 ?_
      refine jv_bipush C dX9_addWord_37 (by decide +kernel) ?_
      refine jv_aload_n C dX9_addWord_39 rfl ?_
      refine jv_getr C kf_X9_7 sS_126 rfl dX9_addWord_40 ?_
      refine jv_const C dX9_addWord_43 ?_
      obtain ⟨hb_44, h⟩ := h
      refine jv_iald C sS_127 rfl hb_44 dX9_addWord_44 ?_
      refine jv_imul C dX9_addWord_45 ?_
      refine jv_iadd C dX9_addWord_46 ?_
      refine jv_aload_n C dX9_addWord_47 rfl ?_
      refine jv_getr C kf_X9_7 sS_126 rfl dX9_addWord_48 ?_
      refine jv_const C dX9_addWord_51 ?_
      obtain ⟨hb_52, h⟩ := h
      refine jv_iald C sS_127 rfl hb_52 dX9_addWord_52 ?_
      refine jv_iadd C dX9_addWord_53 ?_
      refine jv_top (fun v2_54 ev2_54 => ?_)
      replace h := h v2_54 ev2_54
      refine jv_istore_n (ls' := [some (.ref (s0.heap.size + (126 : Int).toNat)), some (jv_i a1), some (jv_i v2_54)]) C dX9_addWord_54 (Nat.lt_of_lt_of_eq (Nat.le_of_ble_eq_true rfl) hml) rfl ?_
      refine jv_aload_n C dX9_addWord_55 rfl ?_
      refine jv_geti C kf_X9_77 sS_126 rfl dX9_addWord_56 ?_
      refine jv_const C dX9_addWord_59 ?_
      have hJ81 : ∀ (gj_81 : jv_Mem), wB_X9_addWord_81 Q gj_81 → jv_V p l e (jv_rm 1 22 0 0) s m args below meth c 0 0 (jv_ZM below s0 D ids ex jv_SH (jv_qi Q) args s 0 0) s0 D ids ex jv_SH gj_81 81 [some (.ref (s0.heap.size + (126 : Int).toNat)), none, none] [] := by
        intro gj_81 h
        unfold wB_X9_addWord_81 at h
        refine jv_aload_n C dX9_addWord_81 rfl ?_
        refine jv_const C dX9_addWord_82 ?_
        refine jv_callVi C (M_X9_fails h) kw_X9_97 sS_126 rfl rfl ⟨rfl, rfl⟩ (st := []) rfl rfl ⟨rfl, rfl⟩ dX9_addWord_83 (fun r_83 g_83 h => ?_)
        exact jv_iret C hr hlk ⟨_, rfl, h⟩ dX9_addWord_86 ⟨rfl, rfl⟩
      obtain ⟨hr_60, h1_60, h2_60⟩ := h
      refine jv_icmp_ne (tgt := 81) C hr_60 ⟨by decide, by decide⟩ dX9_addWord_60 rfl (fun hc_60 => ?_) (fun hc_60 => ?_)
      · replace h := h1_60 hc_60
        exact jv_less (ls' := [some (.ref (s0.heap.size + (126 : Int).toNat)), none, none]) ⟨rfl, trivial⟩ (hJ81 _ h)
      · replace h := h2_60 hc_60
        refine jv_aload_n C dX9_addWord_63 rfl ?_
        refine jv_getr C kf_X9_13 sS_126 rfl dX9_addWord_64 ?_
        refine jv_iload_n C dX9_addWord_67 rfl ?_
        obtain ⟨hb_68, h⟩ := h
        refine jv_iald C sS_128 rfl hb_68 dX9_addWord_68 ?_
        obtain ⟨hr_69, h1_69, h2_69⟩ := h
        refine jv_if_gt (tgt := 81) C hr_69 dX9_addWord_69 rfl (fun hc_69 => ?_) (fun hc_69 => ?_)
        · replace h := h1_69 hc_69
          exact jv_less (ls' := [some (.ref (s0.heap.size + (126 : Int).toNat)), none, none]) ⟨rfl, trivial⟩ (hJ81 _ h)
        · replace h := h2_69 hc_69
          refine jv_aload_n C dX9_addWord_72 rfl ?_
          refine jv_geti C kf_X9_94 sS_126 rfl dX9_addWord_73 ?_
          refine jv_bipush C dX9_addWord_76 (by decide +kernel) ?_
          obtain ⟨hr_78, h1_78, h2_78⟩ := h
          refine jv_icmp_ne (tgt := 87) C hr_78 ⟨by decide, by decide⟩ dX9_addWord_78 rfl (fun hc_78 => ?_) (fun hc_78 => ?_)
          · replace h := h1_78 hc_78
            refine jv_aload_n C dX9_addWord_87 rfl ?_
            refine jv_getr C kf_X9_16 sS_126 rfl dX9_addWord_88 ?_
            refine jv_aload_n C dX9_addWord_91 rfl ?_
            refine jv_geti C kf_X9_94 sS_126 rfl dX9_addWord_92 ?_
            refine jv_iload_n C dX9_addWord_95 rfl ?_
            obtain ⟨hb_96, h⟩ := h
            refine jv_iast C sS_129 rfl hb_96 dX9_addWord_96 (jv_gm (fun g_96 eg_96 => ?_))
            replace h := h g_96 eg_96
            refine jv_aload_n C dX9_addWord_97 rfl ?_
            refine jv_getr C kf_X9_19 sS_126 rfl dX9_addWord_98 ?_
            refine jv_aload_n C dX9_addWord_101 rfl ?_
            refine jv_geti C kf_X9_94 sS_126 rfl dX9_addWord_102 ?_
            refine jv_iload_n C dX9_addWord_105 rfl ?_
            obtain ⟨hb_106, h⟩ := h
            refine jv_iast C sS_130 rfl hb_106 dX9_addWord_106 (jv_gm (fun g_106 eg_106 => ?_))
            replace h := h g_106 eg_106
            refine jv_aload_n C dX9_addWord_107 rfl ?_
            refine jv_dup C rfl dX9_addWord_108 ?_
            refine jv_geti C kf_X9_94 sS_126 rfl dX9_addWord_109 ?_
            refine jv_const C dX9_addWord_112 ?_
            refine jv_iadd C dX9_addWord_113 ?_
            refine jv_puti C kf_X9_94 sS_126 rfl dX9_addWord_114 (jv_gm (fun g_114 eg_114 => ?_))
            replace h := h g_114 eg_114
            refine jv_aload_n C dX9_addWord_117 rfl ?_
            refine jv_getr C kf_X9_13 sS_126 rfl dX9_addWord_118 ?_
            refine jv_iload_n C dX9_addWord_121 rfl ?_
            refine jv_aload_n C dX9_addWord_122 rfl ?_
            refine jv_geti C kf_X9_94 sS_126 rfl dX9_addWord_123 ?_
            obtain ⟨hb_126, h⟩ := h
            refine jv_iast C sS_128 rfl hb_126 dX9_addWord_126 (jv_gm (fun g_126 eg_126 => ?_))
            replace h := h g_126 eg_126
            refine jv_aload_n C dX9_addWord_127 rfl ?_
            refine jv_geti C kf_X9_94 sS_126 rfl dX9_addWord_128 ?_
            refine jv_const C dX9_addWord_131 ?_
            refine jv_isub C dX9_addWord_132 ?_
            exact jv_iret C hr hlk ⟨_, rfl, h⟩ dX9_addWord_133 ⟨rfl, rfl⟩
          · replace h := h2_78 hc_78
            exact jv_less (ls' := [some (.ref (s0.heap.size + (126 : Int).toNat)), none, none]) ⟨rfl, trivial⟩ (hJ81 _ h)
    · replace h := h2_23 hc_23
      refine jv_const C dX9_addWord_26 ?_
      exact jv_iret C hr hlk ⟨_, rfl, h⟩ dX9_addWord_27 ⟨rfl, rfl⟩
  obtain ⟨hr_8, h1_8, h2_8⟩ := h
  refine jv_if_eq (tgt := 15) C hr_8 dX9_addWord_8 rfl (fun hc_8 => ?_) (fun hc_8 => ?_)
  · replace h := h1_8 hc_8
    refine jv_const C dX9_addWord_15 ?_
    exact jv_less (ls' := [some (.ref (s0.heap.size + (126 : Int).toNat)), some (jv_i a1), none]) ⟨rfl, ⟨rfl, trivial⟩⟩ (hJ16 _ _ h)
  · replace h := h2_8 hc_8
    refine jv_const C dX9_addWord_11 ?_
    refine jv_goto (tgt := 16) C dX9_addWord_12 rfl ?_
    exact jv_less (ls' := [some (.ref (s0.heap.size + (126 : Int).toNat)), some (jv_i a1), none]) ⟨rfl, ⟨rfl, trivial⟩⟩ (hJ16 _ _ h)

def wB_X9_setWeight_28 (a1 : Int) (a2 : Int) (Q : Int → jv_Mem → Prop) (y0_28 : Int) (gj_28 : jv_Mem) : Prop :=
  (∀ g_28 : jv_Mem, g_28 = jv_up gj_28 126 29 y0_28 → ((jv_r (g_28 126 29)) ∧ ((g_28 126 29) ≤ 0 → (((0 : Int) ≤ a1 ∧ a1 < (30 : Int)) ∧ (∀ v3_46 : Int, v3_46 = g_28 130 a1 → (((0 : Int) ≤ a1 ∧ a1 < (30 : Int)) ∧ (∀ g_53 : jv_Mem, g_53 = jv_up g_28 130 a1 a2 → Q v3_46 g_53))))) ∧ (0 < (g_28 126 29) → Q 0 g_28)))
def wp_X9_setWeight (a1 : Int) (a2 : Int) (Q : Int → jv_Mem → Prop) (g : jv_Mem) : Prop :=
  (wp_X9_isWord a1 (fun (r_3 : Int) (g_3 : jv_Mem) => ((jv_r r_3) ∧ (¬ r_3 = 0 → (wp_X9_in a2 0 99 (fun (r_17 : Int) (g_17 : jv_Mem) => ((jv_r r_17) ∧ (¬ r_17 = 0 → wB_X9_setWeight_28 a1 a2 Q 0 g_17) ∧ (r_17 = 0 → wB_X9_setWeight_28 a1 a2 Q 2 g_17))) g_3)) ∧ (r_3 = 0 → wB_X9_setWeight_28 a1 a2 Q 1 g_3))) g)
set_option maxHeartbeats 4000000 in
set_option maxRecDepth 100000 in
theorem M_X9_setWeight {l : Launch} {s0 : State} {b0 : Addr} {D : va_G} {ids : Nat → ClassId} {ex : Option Nat} {g : jv_Mem} {a1 : Int} {a2 : Int} {Q : Int → jv_Mem → Prop} (h : wp_X9_setWeight a1 a2 Q g) : jv_M l s0 b0 D ids yX9_setWeight cX9_setWeight 4 (some .int) 2 43 0 0 ex jv_SH g [.ref (s0.heap.size + (126 : Int).toNat), jv_i a1, jv_i a2] ex jv_SH (jv_qi Q) := by
  refine jv_M.of (by decide +kernel) rfl rfl (fun p e s m args below meth c C hml hr hlk hnm => ?_)
  replace C : jv_C p s m args c cX9_setWeight RX9 s0 b0 D ids := C
  show jv_V p l e (jv_rm 2 43 0 0) s m args below meth c 0 0 (jv_ZM below s0 D ids ex jv_SH (jv_qi Q) args s 0 0) s0 D ids ex jv_SH g 0 [some (.ref (s0.heap.size + (126 : Int).toNat)), some (jv_i a1), some (jv_i a2), none] []
  unfold wp_X9_setWeight at h
  refine jv_aload_n C dX9_setWeight_0 rfl ?_
  refine jv_aload_n C dX9_setWeight_1 rfl ?_
  refine jv_iload_n C dX9_setWeight_2 rfl ?_
  refine jv_callVi C (M_X9_isWord h) kw_X9_101 sS_126 rfl rfl ⟨rfl, rfl⟩ (st := [.ref (s0.heap.size + (126 : Int).toNat)]) rfl rfl ⟨rfl, rfl⟩ dX9_setWeight_3 (fun r_3 g_3 h => ?_)
  have hJ28 : ∀ (y0_28 : Int) (gj_28 : jv_Mem), wB_X9_setWeight_28 a1 a2 Q y0_28 gj_28 → jv_V p l e (jv_rm 2 43 0 0) s m args below meth c 0 0 (jv_ZM below s0 D ids ex jv_SH (jv_qi Q) args s 0 0) s0 D ids ex jv_SH gj_28 28 [some (.ref (s0.heap.size + (126 : Int).toNat)), some (jv_i a1), some (jv_i a2), none] [jv_i y0_28, .ref (s0.heap.size + (126 : Int).toNat)] := by
    intro y0_28 gj_28 h
    unfold wB_X9_setWeight_28 at h
    refine jv_puti C kf_X9_73 sS_126 rfl dX9_setWeight_28 (jv_gm (fun g_28 eg_28 => ?_))
    replace h := h g_28 eg_28
    refine jv_aload_n C dX9_setWeight_31 rfl ?_
    refine jv_geti C kf_X9_73 sS_126 rfl dX9_setWeight_32 ?_
    obtain ⟨hr_35, h1_35, h2_35⟩ := h
    refine jv_if_le (tgt := 40) C hr_35 dX9_setWeight_35 rfl (fun hc_35 => ?_) (fun hc_35 => ?_)
    · replace h := h1_35 hc_35
      refine jv_aload_n C dX9_setWeight_40 rfl ?_
      refine jv_getr C kf_X9_19 sS_126 rfl dX9_setWeight_41 ?_
      refine jv_iload_n C dX9_setWeight_44 rfl ?_
      obtain ⟨hb_45, h⟩ := h
      refine jv_iald C sS_130 rfl hb_45 dX9_setWeight_45 ?_
      refine jv_top (fun v3_46 ev3_46 => ?_)
      replace h := h v3_46 ev3_46
      refine jv_istore_n (ls' := [some (.ref (s0.heap.size + (126 : Int).toNat)), some (jv_i a1), some (jv_i a2), some (jv_i v3_46)]) C dX9_setWeight_46 (Nat.lt_of_lt_of_eq (Nat.le_of_ble_eq_true rfl) hml) rfl ?_
      refine jv_aload_n C dX9_setWeight_47 rfl ?_
      refine jv_getr C kf_X9_19 sS_126 rfl dX9_setWeight_48 ?_
      refine jv_iload_n C dX9_setWeight_51 rfl ?_
      refine jv_iload_n C dX9_setWeight_52 rfl ?_
      obtain ⟨hb_53, h⟩ := h
      refine jv_iast C sS_130 rfl hb_53 dX9_setWeight_53 (jv_gm (fun g_53 eg_53 => ?_))
      replace h := h g_53 eg_53
      refine jv_iload_n C dX9_setWeight_54 rfl ?_
      exact jv_iret C hr hlk ⟨_, rfl, h⟩ dX9_setWeight_55 ⟨rfl, rfl⟩
    · replace h := h2_35 hc_35
      refine jv_const C dX9_setWeight_38 ?_
      exact jv_iret C hr hlk ⟨_, rfl, h⟩ dX9_setWeight_39 ⟨rfl, rfl⟩
  obtain ⟨hr_6, h1_6, h2_6⟩ := h
  refine jv_if_ne (tgt := 13) C hr_6 dX9_setWeight_6 rfl (fun hc_6 => ?_) (fun hc_6 => ?_)
  · replace h := h1_6 hc_6
    refine jv_iload_n C dX9_setWeight_13 rfl ?_
    refine jv_const C dX9_setWeight_14 ?_
    refine jv_bipush C dX9_setWeight_15 (by decide +kernel) ?_
    refine jv_callSi C (M_X9_in h) kw_X9_80 rfl ⟨rfl, rfl⟩ (st := [.ref (s0.heap.size + (126 : Int).toNat)]) rfl rfl ⟨rfl, rfl⟩ dX9_setWeight_17 (fun r_17 g_17 h => ?_)
    obtain ⟨hr_20, h1_20, h2_20⟩ := h
    refine jv_if_ne (tgt := 27) C hr_20 dX9_setWeight_20 rfl (fun hc_20 => ?_) (fun hc_20 => ?_)
    · replace h := h1_20 hc_20
      refine jv_const C dX9_setWeight_27 ?_
      exact jv_less (ls' := [some (.ref (s0.heap.size + (126 : Int).toNat)), some (jv_i a1), some (jv_i a2), none]) ⟨rfl, ⟨rfl, ⟨rfl, trivial⟩⟩⟩ (hJ28 _ _ h)
    · replace h := h2_20 hc_20
      refine jv_const C dX9_setWeight_23 ?_
      refine jv_goto (tgt := 28) C dX9_setWeight_24 rfl ?_
      exact jv_less (ls' := [some (.ref (s0.heap.size + (126 : Int).toNat)), some (jv_i a1), some (jv_i a2), none]) ⟨rfl, ⟨rfl, ⟨rfl, trivial⟩⟩⟩ (hJ28 _ _ h)
  · replace h := h2_6 hc_6
    refine jv_const C dX9_setWeight_9 ?_
    refine jv_goto (tgt := 28) C dX9_setWeight_10 rfl ?_
    exact jv_less (ls' := [some (.ref (s0.heap.size + (126 : Int).toNat)), some (jv_i a1), some (jv_i a2), none]) ⟨rfl, ⟨rfl, ⟨rfl, trivial⟩⟩⟩ (hJ28 _ _ h)

def wB_X9_orders_37 (K4 : Int → Int → jv_Mem → Prop) (x2_4 : Int) (x1_37 : Int) (gj_37 : jv_Mem) : Prop :=
  (∀ v2_37 : Int, v2_37 = x2_4 + 1 → K4 x1_37 v2_37 gj_37)
def wp_X9_orders (Q : jv_Mem → Prop) (g : jv_Mem) : Prop :=
  jv_lp2 (fun (K4 : Int → Int → jv_Mem → Prop) (x1_4 x2_4 : Int) (gl_4 : jv_Mem) => ((jv_r x2_4) ∧ (729 ≤ x2_4 → Q gl_4) ∧ (x2_4 < 729 → (((0 : Int) ≤ x2_4 ∧ x2_4 < (729 : Int)) ∧ ((jv_r (gl_4 128 x2_4)) ∧ ((gl_4 128 x2_4) ≤ 0 → wB_X9_orders_37 K4 x2_4 x1_4 gl_4) ∧ (0 < (gl_4 128 x2_4) → (((0 : Int) ≤ x2_4 ∧ x2_4 < (729 : Int)) ∧ (((0 : Int) ≤ x1_4 ∧ x1_4 < (30 : Int)) ∧ (∀ g_33 : jv_Mem, g_33 = jv_up gl_4 131 x1_4 ((gl_4 128 x2_4) - 1) → (∀ v1_34 : Int, v1_34 = x1_4 + 1 → wB_X9_orders_37 K4 x2_4 v1_34 g_33)))))))))) 0 0 g
set_option maxHeartbeats 4000000 in
set_option maxRecDepth 100000 in
theorem M_X9_orders {l : Launch} {s0 : State} {b0 : Addr} {D : va_G} {ids : Nat → ClassId} {ex : Option Nat} {g : jv_Mem} {Q : jv_Mem → Prop} (h : wp_X9_orders Q g) : jv_M l s0 b0 D ids yX9_orders cX9_orders 3 none 0 0 0 0 ex jv_SH g [.ref (s0.heap.size + (126 : Int).toNat)] ex jv_SH (jv_qv Q) := by
  refine jv_M.of (by decide +kernel) rfl rfl (fun p e s m args below meth c C hml hr hlk hnm => ?_)
  replace C : jv_C p s m args c cX9_orders RX9 s0 b0 D ids := C
  show jv_V p l e (jv_rm 0 0 0 0) s m args below meth c 0 0 (jv_ZM below s0 D ids ex jv_SH (jv_qv Q) args s 0 0) s0 D ids ex jv_SH g 0 [some (.ref (s0.heap.size + (126 : Int).toNat)), none, none] []
  unfold wp_X9_orders at h
  refine jv_const C dX9_orders_0 ?_
  refine jv_istore_n (ls' := [some (.ref (s0.heap.size + (126 : Int).toNat)), some (jv_i 0), none]) C dX9_orders_1 (Nat.lt_of_lt_of_eq (Nat.le_of_ble_eq_true rfl) hml) rfl ?_
  refine jv_const C dX9_orders_2 ?_
  refine jv_istore_n (ls' := [some (.ref (s0.heap.size + (126 : Int).toNat)), some (jv_i 0), some (jv_i 0)]) C dX9_orders_3 (Nat.lt_of_lt_of_eq (Nat.le_of_ble_eq_true rfl) hml) rfl ?_
  refine jv_less (ls' := [some (.ref (s0.heap.size + (126 : Int).toNat)), some (jv_i 0), some (jv_i 0)]) ⟨rfl, ⟨rfl, ⟨rfl, trivial⟩⟩⟩ ?_
  refine jv_lp2.use h (fun (x1_4 x2_4 : Int) (gl_4 : jv_Mem) => jv_V p l e (jv_rm 0 0 0 0) s m args below meth c 0 0 (jv_ZM below s0 D ids ex jv_SH (jv_qv Q) args s 0 0) s0 D ids ex jv_SH gl_4 4 [some (.ref (s0.heap.size + (126 : Int).toNat)), some (jv_i x1_4), some (jv_i x2_4)] []) ?_
  intro K4 hK4 x1_4 x2_4 gl_4 h
  refine jv_iload_n C dX9_orders_4 rfl ?_
  refine jv_sipush C dX9_orders_5 (by decide +kernel) ?_
  obtain ⟨hr_8, h1_8, h2_8⟩ := h
  refine jv_icmp_ge (tgt := 43) C hr_8 ⟨by decide, by decide⟩ dX9_orders_8 rfl (fun hc_8 => ?_) (fun hc_8 => ?_)
  · replace h := h1_8 hc_8
    exact jv_vret C hr hlk ⟨rfl, h⟩ dX9_orders_43 ⟨rfl, rfl⟩
  · replace h := h2_8 hc_8
    refine jv_aload_n C dX9_orders_11 rfl ?_
    refine jv_getr C kf_X9_13 sS_126 rfl dX9_orders_12 ?_
    refine jv_iload_n C dX9_orders_15 rfl ?_
    obtain ⟨hb_16, h⟩ := h
    refine jv_iald C sS_128 rfl hb_16 dX9_orders_16 ?_
    have hJ37 : ∀ (x1_37 : Int) (gj_37 : jv_Mem), wB_X9_orders_37 K4 x2_4 x1_37 gj_37 → jv_V p l e (jv_rm 0 0 0 0) s m args below meth c 0 0 (jv_ZM below s0 D ids ex jv_SH (jv_qv Q) args s 0 0) s0 D ids ex jv_SH gj_37 37 [some (.ref (s0.heap.size + (126 : Int).toNat)), some (jv_i x1_37), some (jv_i x2_4)] [] := by
      intro x1_37 gj_37 h
      unfold wB_X9_orders_37 at h
      refine jv_iincn C dX9_orders_37 (Nat.lt_of_lt_of_eq (Nat.le_of_ble_eq_true rfl) hml) rfl (fun v2_37 ev2_37 => ?_)
      replace h := h v2_37 ev2_37
      refine jv_lset (ls' := [some (.ref (s0.heap.size + (126 : Int).toNat)), some (jv_i x1_37), some (jv_i v2_37)]) rfl ?_
      refine jv_goto (tgt := 4) C dX9_orders_40 rfl ?_
      exact jv_less (ls' := [some (.ref (s0.heap.size + (126 : Int).toNat)), some (jv_i x1_37), some (jv_i v2_37)]) ⟨rfl, ⟨rfl, ⟨rfl, trivial⟩⟩⟩ (hK4 _ _ _ h)
    obtain ⟨hr_17, h1_17, h2_17⟩ := h
    refine jv_if_le (tgt := 37) C hr_17 dX9_orders_17 rfl (fun hc_17 => ?_) (fun hc_17 => ?_)
    · replace h := h1_17 hc_17
      exact jv_less (ls' := [some (.ref (s0.heap.size + (126 : Int).toNat)), some (jv_i x1_4), some (jv_i x2_4)]) ⟨rfl, ⟨rfl, ⟨rfl, trivial⟩⟩⟩ (hJ37 _ _ h)
    · replace h := h2_17 hc_17
      refine jv_aload_n C dX9_orders_20 rfl ?_
      refine jv_getr C kf_X9_22 sS_126 rfl dX9_orders_21 ?_
      refine jv_iload_n C dX9_orders_24 rfl ?_
      refine jv_aload_n C dX9_orders_25 rfl ?_
      refine jv_getr C kf_X9_13 sS_126 rfl dX9_orders_26 ?_
      refine jv_iload_n C dX9_orders_29 rfl ?_
      obtain ⟨hb_30, h⟩ := h
      refine jv_iald C sS_128 rfl hb_30 dX9_orders_30 ?_
      refine jv_const C dX9_orders_31 ?_
      refine jv_isub C dX9_orders_32 ?_
      obtain ⟨hb_33, h⟩ := h
      refine jv_iast C sS_131 rfl hb_33 dX9_orders_33 (jv_gm (fun g_33 eg_33 => ?_))
      replace h := h g_33 eg_33
      refine jv_iincn C dX9_orders_34 (Nat.lt_of_lt_of_eq (Nat.le_of_ble_eq_true rfl) hml) rfl (fun v1_34 ev1_34 => ?_)
      replace h := h v1_34 ev1_34
      refine jv_lset (ls' := [some (.ref (s0.heap.size + (126 : Int).toNat)), some (jv_i v1_34), some (jv_i x2_4)]) rfl ?_
      exact jv_less (ls' := [some (.ref (s0.heap.size + (126 : Int).toNat)), some (jv_i v1_34), some (jv_i x2_4)]) ⟨rfl, ⟨rfl, ⟨rfl, trivial⟩⟩⟩ (hJ37 _ _ h)

def wp_X9_wordAt (a1 : Int) (Q : Int → jv_Mem → Prop) (g : jv_Mem) : Prop :=
  (∀ g_2 : jv_Mem, g_2 = jv_up g 126 29 0 → (wp_X9_orders (fun (g_6 : jv_Mem) => (wp_X9_in a1 0 ((g_6 126 2) - 1) (fun (r_17 : Int) (g_17 : jv_Mem) => ((jv_r r_17) ∧ (r_17 = 0 → Q ((-1)) g_17) ∧ (¬ r_17 = 0 → (((0 : Int) ≤ a1 ∧ a1 < (30 : Int)) ∧ Q (g_17 131 a1) g_17)))) g_6)) g_2))
set_option maxHeartbeats 4000000 in
set_option maxRecDepth 100000 in
theorem M_X9_wordAt {l : Launch} {s0 : State} {b0 : Addr} {D : va_G} {ids : Nat → ClassId} {ex : Option Nat} {g : jv_Mem} {a1 : Int} {Q : Int → jv_Mem → Prop} (h : wp_X9_wordAt a1 Q g) : jv_M l s0 b0 D ids yX9_wordAt cX9_wordAt 2 (some .int) 1 22 0 0 ex jv_SH g [.ref (s0.heap.size + (126 : Int).toNat), jv_i a1] ex jv_SH (jv_qi Q) := by
  refine jv_M.of (by decide +kernel) rfl rfl (fun p e s m args below meth c C hml hr hlk hnm => ?_)
  replace C : jv_C p s m args c cX9_wordAt RX9 s0 b0 D ids := C
  show jv_V p l e (jv_rm 1 22 0 0) s m args below meth c 0 0 (jv_ZM below s0 D ids ex jv_SH (jv_qi Q) args s 0 0) s0 D ids ex jv_SH g 0 [some (.ref (s0.heap.size + (126 : Int).toNat)), some (jv_i a1)] []
  unfold wp_X9_wordAt at h
  refine jv_aload_n C dX9_wordAt_0 rfl ?_
  refine jv_const C dX9_wordAt_1 ?_
  refine jv_puti C kf_X9_73 sS_126 rfl dX9_wordAt_2 (jv_gm (fun g_2 eg_2 => ?_))
  replace h := h g_2 eg_2
  refine jv_aload_n C dX9_wordAt_5 rfl ?_
  refine jv_callVv C (M_X9_orders h) kw_X9_104 sS_126 rfl rfl ⟨rfl, rfl⟩ (st := []) rfl rfl ⟨rfl, rfl⟩ dX9_wordAt_6 (fun g_6 h => ?_)
  refine jv_iload_n C dX9_wordAt_9 rfl ?_
  refine jv_const C dX9_wordAt_10 ?_
  refine jv_aload_n C dX9_wordAt_11 rfl ?_
  refine jv_geti C kf_X9_94 sS_126 rfl dX9_wordAt_12 ?_
  refine jv_const C dX9_wordAt_15 ?_
  refine jv_isub C dX9_wordAt_16 ?_
  refine jv_callSi C (M_X9_in h) kw_X9_80 rfl ⟨rfl, rfl⟩ (st := []) rfl rfl ⟨rfl, rfl⟩ dX9_wordAt_17 (fun r_17 g_17 h => ?_)
  obtain ⟨hr_20, h1_20, h2_20⟩ := h
  refine jv_if_eq (tgt := 32) C hr_20 dX9_wordAt_20 rfl (fun hc_20 => ?_) (fun hc_20 => ?_)
  · replace h := h1_20 hc_20
    refine jv_const C dX9_wordAt_32 ?_
    exact jv_iret C hr hlk ⟨_, rfl, h⟩ dX9_wordAt_33 ⟨rfl, rfl⟩
  · replace h := h2_20 hc_20
    refine jv_aload_n C dX9_wordAt_23 rfl ?_
    refine jv_getr C kf_X9_22 sS_126 rfl dX9_wordAt_24 ?_
    refine jv_iload_n C dX9_wordAt_27 rfl ?_
    obtain ⟨hb_28, h⟩ := h
    refine jv_iald C sS_131 rfl hb_28 dX9_wordAt_28 ?_
    refine jv_goto (tgt := 33) C dX9_wordAt_29 rfl ?_
    exact jv_iret C hr hlk ⟨_, rfl, h⟩ dX9_wordAt_33 ⟨rfl, rfl⟩

def wp_X9_letterOf (a0 : Int) (a1 : Int) (Q : Int → jv_Mem → Prop) (g : jv_Mem) : Prop :=
  ((jv_r a1) ∧ (¬ a1 = 0 → ((jv_r a1) ∧ (¬ a1 = 1 → Q (jv_rem a0 9) g) ∧ (a1 = 1 → Q (jv_rem (jv_div a0 9) 9) g))) ∧ (a1 = 0 → Q (jv_div a0 81) g))
set_option maxHeartbeats 4000000 in
set_option maxRecDepth 100000 in
theorem M_X9_letterOf {l : Launch} {s0 : State} {b0 : Addr} {D : va_G} {ids : Nat → ClassId} {ex : Option Nat} {g : jv_Mem} {a0 : Int} {a1 : Int} {Q : Int → jv_Mem → Prop} (h : wp_X9_letterOf a0 a1 Q g) : jv_M l s0 b0 D ids yX9_letterOf cX9_letterOf 2 (some .int) 0 0 0 0 ex jv_SH g [jv_i a0, jv_i a1] ex jv_SH (jv_qi Q) := by
  refine jv_M.of (by decide +kernel) rfl rfl (fun p e s m args below meth c C hml hr hlk hnm => ?_)
  replace C : jv_C p s m args c cX9_letterOf RX9 s0 b0 D ids := C
  show jv_V p l e (jv_rm 0 0 0 0) s m args below meth c 0 0 (jv_ZM below s0 D ids ex jv_SH (jv_qi Q) args s 0 0) s0 D ids ex jv_SH g 0 [some (jv_i a0), some (jv_i a1)] []
  unfold wp_X9_letterOf at h
  refine jv_iload_n C dX9_letterOf_0 rfl ?_
  obtain ⟨hr_1, h1_1, h2_1⟩ := h
  refine jv_if_ne (tgt := 11) C hr_1 dX9_letterOf_1 rfl (fun hc_1 => ?_) (fun hc_1 => ?_)
  · replace h := h1_1 hc_1
    refine jv_iload_n C dX9_letterOf_11 rfl ?_
    refine jv_const C dX9_letterOf_12 ?_
    obtain ⟨hr_13, h1_13, h2_13⟩ := h
    refine jv_icmp_ne (tgt := 26) C hr_13 ⟨by decide, by decide⟩ dX9_letterOf_13 rfl (fun hc_13 => ?_) (fun hc_13 => ?_)
    · replace h := h1_13 hc_13
      refine jv_iload_n C dX9_letterOf_26 rfl ?_
      refine jv_bipush C dX9_letterOf_27 (by decide +kernel) ?_
      refine jv_irem C (by decide +kernel) dX9_letterOf_29 ?_
      exact jv_iret C hr hlk ⟨_, rfl, h⟩ dX9_letterOf_30 ⟨rfl, rfl⟩
    · replace h := h2_13 hc_13
      refine jv_iload_n C dX9_letterOf_16 rfl ?_
      refine jv_bipush C dX9_letterOf_17 (by decide +kernel) ?_
      refine jv_idiv C (by decide +kernel) dX9_letterOf_19 ?_
      refine jv_bipush C dX9_letterOf_20 (by decide +kernel) ?_
      refine jv_irem C (by decide +kernel) dX9_letterOf_22 ?_
      refine jv_goto (tgt := 30) C dX9_letterOf_23 rfl ?_
      exact jv_iret C hr hlk ⟨_, rfl, h⟩ dX9_letterOf_30 ⟨rfl, rfl⟩
  · replace h := h2_1 hc_1
    refine jv_iload_n C dX9_letterOf_4 rfl ?_
    refine jv_bipush C dX9_letterOf_5 (by decide +kernel) ?_
    refine jv_idiv C (by decide +kernel) dX9_letterOf_7 ?_
    refine jv_goto (tgt := 30) C dX9_letterOf_8 rfl ?_
    exact jv_iret C hr hlk ⟨_, rfl, h⟩ dX9_letterOf_30 ⟨rfl, rfl⟩

def wB_X9_beginning_78 (K9 : Int → Int → jv_Mem → Prop) (x1_9 : Int) (x2_9 : Int) (y0_78 : Int) (gj_78 : jv_Mem) : Prop :=
  (∀ v1_79 : Int, v1_79 = x1_9 + y0_78 → (∀ v2_80 : Int, v2_80 = x2_9 + 1 → K9 v1_79 v2_80 gj_78))
def wB_X9_beginning_61 (K22 : Int → Int → jv_Mem → Prop) (x4_22 : Int) (y0_61 : Int) (gj_61 : jv_Mem) : Prop :=
  (∀ v4_62 : Int, v4_62 = x4_22 + 1 → K22 y0_61 v4_62 gj_61)
def wB_X9_beginning_60 (K22 : Int → Int → jv_Mem → Prop) (x4_22 : Int) (gj_60 : jv_Mem) : Prop :=
  wB_X9_beginning_61 K22 x4_22 0 gj_60
def wp_X9_beginning (Q : Int → jv_Mem → Prop) (g : jv_Mem) : Prop :=
  (∀ g_2 : jv_Mem, g_2 = jv_up g 126 29 0 → jv_lp2 (fun (K9 : Int → Int → jv_Mem → Prop) (x1_9 x2_9 : Int) (gl_9 : jv_Mem) => ((jv_r x2_9 ∧ jv_r (gl_9 126 2)) ∧ ((gl_9 126 2) ≤ x2_9 → Q x1_9 gl_9) ∧ (x2_9 < (gl_9 126 2) → jv_lp2 (fun (K22 : Int → Int → jv_Mem → Prop) (x3_22 x4_22 : Int) (gl_22 : jv_Mem) => ((jv_r x4_22 ∧ jv_r (gl_22 126 1)) ∧ ((gl_22 126 1) ≤ x4_22 → ((jv_r x3_22) ∧ (x3_22 = 0 → wB_X9_beginning_78 K9 x1_9 x2_9 0 gl_22) ∧ (¬ x3_22 = 0 → wB_X9_beginning_78 K9 x1_9 x2_9 1 gl_22))) ∧ (x4_22 < (gl_22 126 1) → ((jv_r x3_22) ∧ (x3_22 = 0 → wB_X9_beginning_60 K22 x4_22 gl_22) ∧ (¬ x3_22 = 0 → (((0 : Int) ≤ x2_9 ∧ x2_9 < (30 : Int)) ∧ (wp_X9_letterOf (gl_22 129 x2_9) x4_22 (fun (r_43 : Int) (g_43 : jv_Mem) => (((0 : Int) ≤ x4_22 ∧ x4_22 < (3 : Int)) ∧ ((jv_r r_43 ∧ jv_r (g_43 127 x4_22)) ∧ (¬ r_43 = (g_43 127 x4_22) → wB_X9_beginning_60 K22 x4_22 g_43) ∧ (r_43 = (g_43 127 x4_22) → wB_X9_beginning_61 K22 x4_22 1 g_43)))) gl_22))))))) 1 0 gl_9))) 0 0 g_2)
set_option maxHeartbeats 4000000 in
set_option maxRecDepth 100000 in
theorem M_X9_beginning {l : Launch} {s0 : State} {b0 : Addr} {D : va_G} {ids : Nat → ClassId} {ex : Option Nat} {g : jv_Mem} {Q : Int → jv_Mem → Prop} (h : wp_X9_beginning Q g) : jv_M l s0 b0 D ids yX9_beginning cX9_beginning 5 (some .int) 1 21 0 0 ex jv_SH g [.ref (s0.heap.size + (126 : Int).toNat)] ex jv_SH (jv_qi Q) := by
  refine jv_M.of (by decide +kernel) rfl rfl (fun p e s m args below meth c C hml hr hlk hnm => ?_)
  replace C : jv_C p s m args c cX9_beginning RX9 s0 b0 D ids := C
  show jv_V p l e (jv_rm 1 21 0 0) s m args below meth c 0 0 (jv_ZM below s0 D ids ex jv_SH (jv_qi Q) args s 0 0) s0 D ids ex jv_SH g 0 [some (.ref (s0.heap.size + (126 : Int).toNat)), none, none, none, none] []
  unfold wp_X9_beginning at h
  refine jv_aload_n C dX9_beginning_0 rfl ?_
  refine jv_const C dX9_beginning_1 ?_
  refine jv_puti C kf_X9_73 sS_126 rfl dX9_beginning_2 (jv_gm (fun g_2 eg_2 => ?_))
  replace h := h g_2 eg_2
  refine jv_const C dX9_beginning_5 ?_
  refine jv_istore_n (ls' := [some (.ref (s0.heap.size + (126 : Int).toNat)), some (jv_i 0), none, none, none]) C dX9_beginning_6 (Nat.lt_of_lt_of_eq (Nat.le_of_ble_eq_true rfl) hml) rfl ?_
  refine jv_const C dX9_beginning_7 ?_
  refine jv_istore_n (ls' := [some (.ref (s0.heap.size + (126 : Int).toNat)), some (jv_i 0), some (jv_i 0), none, none]) C dX9_beginning_8 (Nat.lt_of_lt_of_eq (Nat.le_of_ble_eq_true rfl) hml) rfl ?_
  refine jv_less (ls' := [some (.ref (s0.heap.size + (126 : Int).toNat)), some (jv_i 0), some (jv_i 0), none, none]) ⟨rfl, ⟨rfl, ⟨rfl, trivial⟩⟩⟩ ?_
  refine jv_lp2.use h (fun (x1_9 x2_9 : Int) (gl_9 : jv_Mem) => jv_V p l e (jv_rm 1 21 0 0) s m args below meth c 0 0 (jv_ZM below s0 D ids ex jv_SH (jv_qi Q) args s 0 0) s0 D ids ex jv_SH gl_9 9 [some (.ref (s0.heap.size + (126 : Int).toNat)), some (jv_i x1_9), some (jv_i x2_9), none, none] []) ?_
  intro K9 hK9 x1_9 x2_9 gl_9 h
  refine jv_iload_n C dX9_beginning_9 rfl ?_
  refine jv_aload_n C dX9_beginning_10 rfl ?_
  refine jv_geti C kf_X9_94 sS_126 rfl dX9_beginning_11 ?_
  obtain ⟨hr_14, h1_14, h2_14⟩ := h
  refine jv_icmp_ge (tgt := 86) C hr_14.1 hr_14.2 dX9_beginning_14 rfl (fun hc_14 => ?_) (fun hc_14 => ?_)
  · replace h := h1_14 hc_14
    refine jv_iload_n C dX9_beginning_86 rfl ?_
    exact jv_iret C hr hlk ⟨_, rfl, h⟩ dX9_beginning_87 ⟨rfl, rfl⟩
  · replace h := h2_14 hc_14
    refine jv_const C dX9_beginning_17 ?_
    refine jv_istore_n (ls' := [some (.ref (s0.heap.size + (126 : Int).toNat)), some (jv_i x1_9), some (jv_i x2_9), some (jv_i 1), none]) C dX9_beginning_18 (Nat.lt_of_lt_of_eq (Nat.le_of_ble_eq_true rfl) hml) rfl ?_
    refine jv_const C dX9_beginning_19 ?_
    refine jv_istore (ls' := [some (.ref (s0.heap.size + (126 : Int).toNat)), some (jv_i x1_9), some (jv_i x2_9), some (jv_i 1), some (jv_i 0)]) C dX9_beginning_20 (Nat.lt_of_lt_of_eq (Nat.le_of_ble_eq_true rfl) hml) rfl ?_
    refine jv_less (ls' := [some (.ref (s0.heap.size + (126 : Int).toNat)), some (jv_i x1_9), some (jv_i x2_9), some (jv_i 1), some (jv_i 0)]) ⟨rfl, ⟨rfl, ⟨rfl, ⟨rfl, ⟨rfl, trivial⟩⟩⟩⟩⟩ ?_
    refine jv_lp2.use h (fun (x3_22 x4_22 : Int) (gl_22 : jv_Mem) => jv_V p l e (jv_rm 1 21 0 0) s m args below meth c 0 0 (jv_ZM below s0 D ids ex jv_SH (jv_qi Q) args s 0 0) s0 D ids ex jv_SH gl_22 22 [some (.ref (s0.heap.size + (126 : Int).toNat)), some (jv_i x1_9), some (jv_i x2_9), some (jv_i x3_22), some (jv_i x4_22)] []) ?_
    intro K22 hK22 x3_22 x4_22 gl_22 h
    refine jv_iload C dX9_beginning_22 rfl ?_
    refine jv_aload_n C dX9_beginning_24 rfl ?_
    refine jv_geti C kf_X9_77 sS_126 rfl dX9_beginning_25 ?_
    obtain ⟨hr_28, h1_28, h2_28⟩ := h
    refine jv_icmp_ge (tgt := 68) C hr_28.1 hr_28.2 dX9_beginning_28 rfl (fun hc_28 => ?_) (fun hc_28 => ?_)
    · replace h := h1_28 hc_28
      refine jv_iload_n C dX9_beginning_68 rfl ?_
      refine jv_iload_n C dX9_beginning_69 rfl ?_
      have hJ78 : ∀ (y0_78 : Int) (gj_78 : jv_Mem), wB_X9_beginning_78 K9 x1_9 x2_9 y0_78 gj_78 → jv_V p l e (jv_rm 1 21 0 0) s m args below meth c 0 0 (jv_ZM below s0 D ids ex jv_SH (jv_qi Q) args s 0 0) s0 D ids ex jv_SH gj_78 78 [some (.ref (s0.heap.size + (126 : Int).toNat)), none, some (jv_i x2_9), none, none] [jv_i y0_78, jv_i x1_9] := by
        intro y0_78 gj_78 h
        unfold wB_X9_beginning_78 at h
        refine jv_iadd C dX9_beginning_78 ?_
        refine jv_top (fun v1_79 ev1_79 => ?_)
        replace h := h v1_79 ev1_79
        refine jv_istore_n (ls' := [some (.ref (s0.heap.size + (126 : Int).toNat)), some (jv_i v1_79), some (jv_i x2_9), none, none]) C dX9_beginning_79 (Nat.lt_of_lt_of_eq (Nat.le_of_ble_eq_true rfl) hml) rfl ?_
        refine jv_iincn C dX9_beginning_80 (Nat.lt_of_lt_of_eq (Nat.le_of_ble_eq_true rfl) hml) rfl (fun v2_80 ev2_80 => ?_)
        replace h := h v2_80 ev2_80
        refine jv_lset (ls' := [some (.ref (s0.heap.size + (126 : Int).toNat)), some (jv_i v1_79), some (jv_i v2_80), none, none]) rfl ?_
        refine jv_goto (tgt := 9) C dX9_beginning_83 rfl ?_
        exact jv_less (ls' := [some (.ref (s0.heap.size + (126 : Int).toNat)), some (jv_i v1_79), some (jv_i v2_80), none, none]) ⟨rfl, ⟨rfl, ⟨rfl, trivial⟩⟩⟩ (hK9 _ _ _ h)
      obtain ⟨hr_70, h1_70, h2_70⟩ := h
      refine jv_if_eq (tgt := 77) C hr_70 dX9_beginning_70 rfl (fun hc_70 => ?_) (fun hc_70 => ?_)
      · replace h := h1_70 hc_70
        refine jv_const C dX9_beginning_77 ?_
        exact jv_less (ls' := [some (.ref (s0.heap.size + (126 : Int).toNat)), none, some (jv_i x2_9), none, none]) ⟨rfl, ⟨rfl, trivial⟩⟩ (hJ78 _ _ h)
      · replace h := h2_70 hc_70
        refine jv_const C dX9_beginning_73 ?_
        refine jv_goto (tgt := 78) C dX9_beginning_74 rfl ?_
        exact jv_less (ls' := [some (.ref (s0.heap.size + (126 : Int).toNat)), none, some (jv_i x2_9), none, none]) ⟨rfl, ⟨rfl, trivial⟩⟩ (hJ78 _ _ h)
    · replace h := h2_28 hc_28
      refine jv_iload_n C dX9_beginning_31 rfl ?_
      have hJ61 : ∀ (y0_61 : Int) (gj_61 : jv_Mem), wB_X9_beginning_61 K22 x4_22 y0_61 gj_61 → jv_V p l e (jv_rm 1 21 0 0) s m args below meth c 0 0 (jv_ZM below s0 D ids ex jv_SH (jv_qi Q) args s 0 0) s0 D ids ex jv_SH gj_61 61 [some (.ref (s0.heap.size + (126 : Int).toNat)), some (jv_i x1_9), some (jv_i x2_9), none, some (jv_i x4_22)] [jv_i y0_61] := by
        intro y0_61 gj_61 h
        unfold wB_X9_beginning_61 at h
        refine jv_istore_n (ls' := [some (.ref (s0.heap.size + (126 : Int).toNat)), some (jv_i x1_9), some (jv_i x2_9), some (jv_i y0_61), some (jv_i x4_22)]) C dX9_beginning_61 (Nat.lt_of_lt_of_eq (Nat.le_of_ble_eq_true rfl) hml) rfl ?_
        refine jv_iincn C dX9_beginning_62 (Nat.lt_of_lt_of_eq (Nat.le_of_ble_eq_true rfl) hml) rfl (fun v4_62 ev4_62 => ?_)
        replace h := h v4_62 ev4_62
        refine jv_lset (ls' := [some (.ref (s0.heap.size + (126 : Int).toNat)), some (jv_i x1_9), some (jv_i x2_9), some (jv_i y0_61), some (jv_i v4_62)]) rfl ?_
        refine jv_goto (tgt := 22) C dX9_beginning_65 rfl ?_
        exact jv_less (ls' := [some (.ref (s0.heap.size + (126 : Int).toNat)), some (jv_i x1_9), some (jv_i x2_9), some (jv_i y0_61), some (jv_i v4_62)]) ⟨rfl, ⟨rfl, ⟨rfl, ⟨rfl, ⟨rfl, trivial⟩⟩⟩⟩⟩ (hK22 _ _ _ h)
      have hJ60 : ∀ (gj_60 : jv_Mem), wB_X9_beginning_60 K22 x4_22 gj_60 → jv_V p l e (jv_rm 1 21 0 0) s m args below meth c 0 0 (jv_ZM below s0 D ids ex jv_SH (jv_qi Q) args s 0 0) s0 D ids ex jv_SH gj_60 60 [some (.ref (s0.heap.size + (126 : Int).toNat)), some (jv_i x1_9), some (jv_i x2_9), none, some (jv_i x4_22)] [] := by
        intro gj_60 h
        unfold wB_X9_beginning_60 at h
        refine jv_const C dX9_beginning_60 ?_
        exact jv_less (ls' := [some (.ref (s0.heap.size + (126 : Int).toNat)), some (jv_i x1_9), some (jv_i x2_9), none, some (jv_i x4_22)]) ⟨rfl, ⟨rfl, ⟨rfl, ⟨rfl, trivial⟩⟩⟩⟩ (hJ61 _ _ h)
      obtain ⟨hr_32, h1_32, h2_32⟩ := h
      refine jv_if_eq (tgt := 60) C hr_32 dX9_beginning_32 rfl (fun hc_32 => ?_) (fun hc_32 => ?_)
      · replace h := h1_32 hc_32
        exact jv_less (ls' := [some (.ref (s0.heap.size + (126 : Int).toNat)), some (jv_i x1_9), some (jv_i x2_9), none, some (jv_i x4_22)]) ⟨rfl, ⟨rfl, ⟨rfl, ⟨rfl, trivial⟩⟩⟩⟩ (hJ60 _ h)
      · replace h := h2_32 hc_32
        refine jv_aload_n C dX9_beginning_35 rfl ?_
        refine jv_getr C kf_X9_16 sS_126 rfl dX9_beginning_36 ?_
        refine jv_iload_n C dX9_beginning_39 rfl ?_
        obtain ⟨hb_40, h⟩ := h
        refine jv_iald C sS_129 rfl hb_40 dX9_beginning_40 ?_
        refine jv_iload C dX9_beginning_41 rfl ?_
        refine jv_callSi C (M_X9_letterOf h) kw_X9_107 rfl ⟨rfl, rfl⟩ (st := []) rfl rfl ⟨rfl, rfl⟩ dX9_beginning_43 (fun r_43 g_43 h => ?_)
        refine jv_aload_n C dX9_beginning_46 rfl ?_
        refine jv_getr C kf_X9_7 sS_126 rfl dX9_beginning_47 ?_
        refine jv_iload C dX9_beginning_50 rfl ?_
        obtain ⟨hb_52, h⟩ := h
        refine jv_iald C sS_127 rfl hb_52 dX9_beginning_52 ?_
        obtain ⟨hr_53, h1_53, h2_53⟩ := h
        refine jv_icmp_ne (tgt := 60) C hr_53.1 hr_53.2 dX9_beginning_53 rfl (fun hc_53 => ?_) (fun hc_53 => ?_)
        · replace h := h1_53 hc_53
          exact jv_less (ls' := [some (.ref (s0.heap.size + (126 : Int).toNat)), some (jv_i x1_9), some (jv_i x2_9), none, some (jv_i x4_22)]) ⟨rfl, ⟨rfl, ⟨rfl, ⟨rfl, trivial⟩⟩⟩⟩ (hJ60 _ h)
        · replace h := h2_53 hc_53
          refine jv_const C dX9_beginning_56 ?_
          refine jv_goto (tgt := 61) C dX9_beginning_57 rfl ?_
          exact jv_less (ls' := [some (.ref (s0.heap.size + (126 : Int).toNat)), some (jv_i x1_9), some (jv_i x2_9), none, some (jv_i x4_22)]) ⟨rfl, ⟨rfl, ⟨rfl, ⟨rfl, trivial⟩⟩⟩⟩ (hJ61 _ _ h)

def wB_X9_fix_26 (a1 : Int) (a2 : Int) (Q : Int → jv_Mem → Prop) (y0_26 : Int) (gj_26 : jv_Mem) : Prop :=
  (∀ g_26 : jv_Mem, g_26 = jv_up gj_26 126 29 y0_26 → ((jv_r (g_26 126 29)) ∧ ((g_26 126 29) ≤ 0 → (((0 : Int) ≤ a1 ∧ a1 < (9 : Int)) ∧ (∀ v3_46 : Int, v3_46 = (g_26 132 a1) - 1 → (((0 : Int) ≤ a1 ∧ a1 < (9 : Int)) ∧ (∀ g_55 : jv_Mem, g_55 = jv_up g_26 132 a1 (a2 + 1) → Q v3_46 g_55))))) ∧ (0 < (g_26 126 29) → Q 0 g_26)))
def wB_X9_fix_25 (a1 : Int) (a2 : Int) (Q : Int → jv_Mem → Prop) (gj_25 : jv_Mem) : Prop :=
  wB_X9_fix_26 a1 a2 Q 1 gj_25
def wp_X9_fix (a1 : Int) (a2 : Int) (Q : Int → jv_Mem → Prop) (g : jv_Mem) : Prop :=
  (wp_X9_in a1 0 8 (fun (r_5 : Int) (g_5 : jv_Mem) => ((jv_r r_5) ∧ (r_5 = 0 → wB_X9_fix_25 a1 a2 Q g_5) ∧ (¬ r_5 = 0 → (wp_X9_in a2 ((-1)) 8 (fun (r_15 : Int) (g_15 : jv_Mem) => ((jv_r r_15) ∧ (r_15 = 0 → wB_X9_fix_25 a1 a2 Q g_15) ∧ (¬ r_15 = 0 → wB_X9_fix_26 a1 a2 Q 0 g_15))) g_5)))) g)
set_option maxHeartbeats 4000000 in
set_option maxRecDepth 100000 in
theorem M_X9_fix {l : Launch} {s0 : State} {b0 : Addr} {D : va_G} {ids : Nat → ClassId} {ex : Option Nat} {g : jv_Mem} {a1 : Int} {a2 : Int} {Q : Int → jv_Mem → Prop} (h : wp_X9_fix a1 a2 Q g) : jv_M l s0 b0 D ids yX9_fix cX9_fix 4 (some .int) 1 22 0 0 ex jv_SH g [.ref (s0.heap.size + (126 : Int).toNat), jv_i a1, jv_i a2] ex jv_SH (jv_qi Q) := by
  refine jv_M.of (by decide +kernel) rfl rfl (fun p e s m args below meth c C hml hr hlk hnm => ?_)
  replace C : jv_C p s m args c cX9_fix RX9 s0 b0 D ids := C
  show jv_V p l e (jv_rm 1 22 0 0) s m args below meth c 0 0 (jv_ZM below s0 D ids ex jv_SH (jv_qi Q) args s 0 0) s0 D ids ex jv_SH g 0 [some (.ref (s0.heap.size + (126 : Int).toNat)), some (jv_i a1), some (jv_i a2), none] []
  unfold wp_X9_fix at h
  refine jv_aload_n C dX9_fix_0 rfl ?_
  refine jv_iload_n C dX9_fix_1 rfl ?_
  refine jv_const C dX9_fix_2 ?_
  refine jv_bipush C dX9_fix_3 (by decide +kernel) ?_
  refine jv_callSi C (M_X9_in h) kw_X9_80 rfl ⟨rfl, rfl⟩ (st := [.ref (s0.heap.size + (126 : Int).toNat)]) rfl rfl ⟨rfl, rfl⟩ dX9_fix_5 (fun r_5 g_5 h => ?_)
  have hJ26 : ∀ (y0_26 : Int) (gj_26 : jv_Mem), wB_X9_fix_26 a1 a2 Q y0_26 gj_26 → jv_V p l e (jv_rm 1 22 0 0) s m args below meth c 0 0 (jv_ZM below s0 D ids ex jv_SH (jv_qi Q) args s 0 0) s0 D ids ex jv_SH gj_26 26 [some (.ref (s0.heap.size + (126 : Int).toNat)), some (jv_i a1), some (jv_i a2), none] [jv_i y0_26, .ref (s0.heap.size + (126 : Int).toNat)] := by
    intro y0_26 gj_26 h
    unfold wB_X9_fix_26 at h
    refine jv_puti C kf_X9_73 sS_126 rfl dX9_fix_26 (jv_gm (fun g_26 eg_26 => ?_))
    replace h := h g_26 eg_26
    refine jv_aload_n C dX9_fix_29 rfl ?_
    refine jv_geti C kf_X9_73 sS_126 rfl dX9_fix_30 ?_
    obtain ⟨hr_33, h1_33, h2_33⟩ := h
    refine jv_if_le (tgt := 38) C hr_33 dX9_fix_33 rfl (fun hc_33 => ?_) (fun hc_33 => ?_)
    · replace h := h1_33 hc_33
      refine jv_aload_n C dX9_fix_38 rfl ?_
      refine jv_getr C kf_X9_25 sS_126 rfl dX9_fix_39 ?_
      refine jv_iload_n C dX9_fix_42 rfl ?_
      obtain ⟨hb_43, h⟩ := h
      refine jv_iald C sS_132 rfl hb_43 dX9_fix_43 ?_
      refine jv_const C dX9_fix_44 ?_
      refine jv_isub C dX9_fix_45 ?_
      refine jv_top (fun v3_46 ev3_46 => ?_)
      replace h := h v3_46 ev3_46
      refine jv_istore_n (ls' := [some (.ref (s0.heap.size + (126 : Int).toNat)), some (jv_i a1), some (jv_i a2), some (jv_i v3_46)]) C dX9_fix_46 (Nat.lt_of_lt_of_eq (Nat.le_of_ble_eq_true rfl) hml) rfl ?_
      refine jv_aload_n C dX9_fix_47 rfl ?_
      refine jv_getr C kf_X9_25 sS_126 rfl dX9_fix_48 ?_
      refine jv_iload_n C dX9_fix_51 rfl ?_
      refine jv_iload_n C dX9_fix_52 rfl ?_
      refine jv_const C dX9_fix_53 ?_
      refine jv_iadd C dX9_fix_54 ?_
      obtain ⟨hb_55, h⟩ := h
      refine jv_iast C sS_132 rfl hb_55 dX9_fix_55 (jv_gm (fun g_55 eg_55 => ?_))
      replace h := h g_55 eg_55
      refine jv_iload_n C dX9_fix_56 rfl ?_
      exact jv_iret C hr hlk ⟨_, rfl, h⟩ dX9_fix_57 ⟨rfl, rfl⟩
    · replace h := h2_33 hc_33
      refine jv_const C dX9_fix_36 ?_
      exact jv_iret C hr hlk ⟨_, rfl, h⟩ dX9_fix_37 ⟨rfl, rfl⟩
  have hJ25 : ∀ (gj_25 : jv_Mem), wB_X9_fix_25 a1 a2 Q gj_25 → jv_V p l e (jv_rm 1 22 0 0) s m args below meth c 0 0 (jv_ZM below s0 D ids ex jv_SH (jv_qi Q) args s 0 0) s0 D ids ex jv_SH gj_25 25 [some (.ref (s0.heap.size + (126 : Int).toNat)), some (jv_i a1), some (jv_i a2), none] [.ref (s0.heap.size + (126 : Int).toNat)] := by
    intro gj_25 h
    unfold wB_X9_fix_25 at h
    refine jv_const C dX9_fix_25 ?_
    exact jv_less (ls' := [some (.ref (s0.heap.size + (126 : Int).toNat)), some (jv_i a1), some (jv_i a2), none]) ⟨rfl, ⟨rfl, ⟨rfl, trivial⟩⟩⟩ (hJ26 _ _ h)
  obtain ⟨hr_8, h1_8, h2_8⟩ := h
  refine jv_if_eq (tgt := 25) C hr_8 dX9_fix_8 rfl (fun hc_8 => ?_) (fun hc_8 => ?_)
  · replace h := h1_8 hc_8
    exact jv_less (ls' := [some (.ref (s0.heap.size + (126 : Int).toNat)), some (jv_i a1), some (jv_i a2), none]) ⟨rfl, ⟨rfl, ⟨rfl, trivial⟩⟩⟩ (hJ25 _ h)
  · replace h := h2_8 hc_8
    refine jv_iload_n C dX9_fix_11 rfl ?_
    refine jv_const C dX9_fix_12 ?_
    refine jv_bipush C dX9_fix_13 (by decide +kernel) ?_
    refine jv_callSi C (M_X9_in h) kw_X9_80 rfl ⟨rfl, rfl⟩ (st := [.ref (s0.heap.size + (126 : Int).toNat)]) rfl rfl ⟨rfl, rfl⟩ dX9_fix_15 (fun r_15 g_15 h => ?_)
    obtain ⟨hr_18, h1_18, h2_18⟩ := h
    refine jv_if_eq (tgt := 25) C hr_18 dX9_fix_18 rfl (fun hc_18 => ?_) (fun hc_18 => ?_)
    · replace h := h1_18 hc_18
      exact jv_less (ls' := [some (.ref (s0.heap.size + (126 : Int).toNat)), some (jv_i a1), some (jv_i a2), none]) ⟨rfl, ⟨rfl, ⟨rfl, trivial⟩⟩⟩ (hJ25 _ h)
    · replace h := h2_18 hc_18
      refine jv_const C dX9_fix_21 ?_
      refine jv_goto (tgt := 26) C dX9_fix_22 rfl ?_
      exact jv_less (ls' := [some (.ref (s0.heap.size + (126 : Int).toNat)), some (jv_i a1), some (jv_i a2), none]) ⟨rfl, ⟨rfl, ⟨rfl, trivial⟩⟩⟩ (hJ26 _ _ h)

def wB_X9_fitsRow_56 (K5 : Int → Int → jv_Mem → Prop) (x4_5 : Int) (y0_56 : Int) (gj_56 : jv_Mem) : Prop :=
  (∀ v4_57 : Int, v4_57 = x4_5 + 1 → K5 y0_56 v4_57 gj_56)
def wB_X9_fitsRow_55 (K5 : Int → Int → jv_Mem → Prop) (x4_5 : Int) (gj_55 : jv_Mem) : Prop :=
  wB_X9_fitsRow_56 K5 x4_5 0 gj_55
def wB_X9_fitsRow_51 (K5 : Int → Int → jv_Mem → Prop) (x4_5 : Int) (gj_51 : jv_Mem) : Prop :=
  wB_X9_fitsRow_56 K5 x4_5 1 gj_51
def wp_X9_fitsRow (a1 : Int) (a2 : Int) (Q : Int → jv_Mem → Prop) (g : jv_Mem) : Prop :=
  jv_lp2 (fun (K5 : Int → Int → jv_Mem → Prop) (x3_5 x4_5 : Int) (gl_5 : jv_Mem) => ((jv_r x4_5) ∧ (3 ≤ x4_5 → ((x3_5 = 0 ∨ x3_5 = 1) ∧ Q x3_5 gl_5)) ∧ (x4_5 < 3 → (((0 : Int) ≤ (3 * a2) + x4_5 ∧ (3 * a2) + x4_5 < (9 : Int)) ∧ (∀ v5_22 : Int, v5_22 = gl_5 132 ((3 * a2) + x4_5) → ((jv_r x3_5) ∧ (x3_5 = 0 → wB_X9_fitsRow_55 K5 x4_5 gl_5) ∧ (¬ x3_5 = 0 → ((jv_r v5_22) ∧ (v5_22 = 0 → wB_X9_fitsRow_51 K5 x4_5 gl_5) ∧ (¬ v5_22 = 0 → (((0 : Int) ≤ a1 ∧ a1 < (30 : Int)) ∧ (wp_X9_letterOf (gl_5 129 a1) x4_5 (fun (r_43 : Int) (g_43 : jv_Mem) => ((jv_r v5_22 ∧ jv_r (r_43 + 1)) ∧ (¬ v5_22 = (r_43 + 1) → wB_X9_fitsRow_55 K5 x4_5 g_43) ∧ (v5_22 = (r_43 + 1) → wB_X9_fitsRow_51 K5 x4_5 g_43))) gl_5))))))))))) 1 0 g
set_option maxHeartbeats 4000000 in
set_option maxRecDepth 100000 in
theorem M_X9_fitsRow {l : Launch} {s0 : State} {b0 : Addr} {D : va_G} {ids : Nat → ClassId} {ex : Option Nat} {g : jv_Mem} {a1 : Int} {a2 : Int} {Q : Int → jv_Mem → Prop} (h : wp_X9_fitsRow a1 a2 Q g) : jv_M l s0 b0 D ids yX9_fitsRow cX9_fitsRow 6 (some .boolean) 1 21 0 0 ex jv_SH g [.ref (s0.heap.size + (126 : Int).toNat), jv_i a1, jv_i a2] ex jv_SH (jv_qi Q) := by
  refine jv_M.of (by decide +kernel) rfl rfl (fun p e s m args below meth c C hml hr hlk hnm => ?_)
  replace C : jv_C p s m args c cX9_fitsRow RX9 s0 b0 D ids := C
  show jv_V p l e (jv_rm 1 21 0 0) s m args below meth c 0 0 (jv_ZM below s0 D ids ex jv_SH (jv_qi Q) args s 0 0) s0 D ids ex jv_SH g 0 [some (.ref (s0.heap.size + (126 : Int).toNat)), some (jv_i a1), some (jv_i a2), none, none, none] []
  unfold wp_X9_fitsRow at h
  refine jv_const C dX9_fitsRow_0 ?_
  refine jv_istore_n (ls' := [some (.ref (s0.heap.size + (126 : Int).toNat)), some (jv_i a1), some (jv_i a2), some (jv_i 1), none, none]) C dX9_fitsRow_1 (Nat.lt_of_lt_of_eq (Nat.le_of_ble_eq_true rfl) hml) rfl ?_
  refine jv_const C dX9_fitsRow_2 ?_
  refine jv_istore (ls' := [some (.ref (s0.heap.size + (126 : Int).toNat)), some (jv_i a1), some (jv_i a2), some (jv_i 1), some (jv_i 0), none]) C dX9_fitsRow_3 (Nat.lt_of_lt_of_eq (Nat.le_of_ble_eq_true rfl) hml) rfl ?_
  refine jv_less (ls' := [some (.ref (s0.heap.size + (126 : Int).toNat)), some (jv_i a1), some (jv_i a2), some (jv_i 1), some (jv_i 0), none]) ⟨rfl, ⟨rfl, ⟨rfl, ⟨rfl, ⟨rfl, trivial⟩⟩⟩⟩⟩ ?_
  refine jv_lp2.use h (fun (x3_5 x4_5 : Int) (gl_5 : jv_Mem) => jv_V p l e (jv_rm 1 21 0 0) s m args below meth c 0 0 (jv_ZM below s0 D ids ex jv_SH (jv_qi Q) args s 0 0) s0 D ids ex jv_SH gl_5 5 [some (.ref (s0.heap.size + (126 : Int).toNat)), some (jv_i a1), some (jv_i a2), some (jv_i x3_5), some (jv_i x4_5), none] []) ?_
  intro K5 hK5 x3_5 x4_5 gl_5 h
  refine jv_iload C dX9_fitsRow_5 rfl ?_
  refine jv_const C dX9_fitsRow_7 ?_
  obtain ⟨hr_8, h1_8, h2_8⟩ := h
  refine jv_icmp_ge (tgt := 63) C hr_8 ⟨by decide, by decide⟩ dX9_fitsRow_8 rfl (fun hc_8 => ?_) (fun hc_8 => ?_)
  · replace h := h1_8 hc_8
    refine jv_iload_n C dX9_fitsRow_63 rfl ?_
    obtain ⟨hz_64, h⟩ := h
    exact jv_zret C hr hlk (jv_nz hz_64) ⟨_, rfl, h⟩ dX9_fitsRow_64 ⟨rfl, rfl⟩
  · replace h := h2_8 hc_8
    refine jv_aload_n C dX9_fitsRow_11 rfl ?_
    refine jv_getr C kf_X9_25 sS_126 rfl dX9_fitsRow_12 ?_
    refine jv_const C dX9_fitsRow_15 ?_
    refine jv_iload_n C dX9_fitsRow_16 rfl ?_
    refine jv_imul C dX9_fitsRow_17 ?_
    refine jv_iload C dX9_fitsRow_18 rfl ?_
    refine jv_iadd C dX9_fitsRow_20 ?_
    obtain ⟨hb_21, h⟩ := h
    refine jv_iald C sS_132 rfl hb_21 dX9_fitsRow_21 ?_
    refine jv_top (fun v5_22 ev5_22 => ?_)
    replace h := h v5_22 ev5_22
    refine jv_istore (ls' := [some (.ref (s0.heap.size + (126 : Int).toNat)), some (jv_i a1), some (jv_i a2), some (jv_i x3_5), some (jv_i x4_5), some (jv_i v5_22)]) C dX9_fitsRow_22 (Nat.lt_of_lt_of_eq (Nat.le_of_ble_eq_true rfl) hml) rfl ?_
    refine jv_iload_n C dX9_fitsRow_24 rfl ?_
    have hJ56 : ∀ (y0_56 : Int) (gj_56 : jv_Mem), wB_X9_fitsRow_56 K5 x4_5 y0_56 gj_56 → jv_V p l e (jv_rm 1 21 0 0) s m args below meth c 0 0 (jv_ZM below s0 D ids ex jv_SH (jv_qi Q) args s 0 0) s0 D ids ex jv_SH gj_56 56 [some (.ref (s0.heap.size + (126 : Int).toNat)), some (jv_i a1), some (jv_i a2), none, some (jv_i x4_5), none] [jv_i y0_56] := by
      intro y0_56 gj_56 h
      unfold wB_X9_fitsRow_56 at h
      refine jv_istore_n (ls' := [some (.ref (s0.heap.size + (126 : Int).toNat)), some (jv_i a1), some (jv_i a2), some (jv_i y0_56), some (jv_i x4_5), none]) C dX9_fitsRow_56 (Nat.lt_of_lt_of_eq (Nat.le_of_ble_eq_true rfl) hml) rfl ?_
      refine jv_iincn C dX9_fitsRow_57 (Nat.lt_of_lt_of_eq (Nat.le_of_ble_eq_true rfl) hml) rfl (fun v4_57 ev4_57 => ?_)
      replace h := h v4_57 ev4_57
      refine jv_lset (ls' := [some (.ref (s0.heap.size + (126 : Int).toNat)), some (jv_i a1), some (jv_i a2), some (jv_i y0_56), some (jv_i v4_57), none]) rfl ?_
      refine jv_goto (tgt := 5) C dX9_fitsRow_60 rfl ?_
      exact jv_less (ls' := [some (.ref (s0.heap.size + (126 : Int).toNat)), some (jv_i a1), some (jv_i a2), some (jv_i y0_56), some (jv_i v4_57), none]) ⟨rfl, ⟨rfl, ⟨rfl, ⟨rfl, ⟨rfl, trivial⟩⟩⟩⟩⟩ (hK5 _ _ _ h)
    have hJ55 : ∀ (gj_55 : jv_Mem), wB_X9_fitsRow_55 K5 x4_5 gj_55 → jv_V p l e (jv_rm 1 21 0 0) s m args below meth c 0 0 (jv_ZM below s0 D ids ex jv_SH (jv_qi Q) args s 0 0) s0 D ids ex jv_SH gj_55 55 [some (.ref (s0.heap.size + (126 : Int).toNat)), some (jv_i a1), some (jv_i a2), none, some (jv_i x4_5), none] [] := by
      intro gj_55 h
      unfold wB_X9_fitsRow_55 at h
      refine jv_const C dX9_fitsRow_55 ?_
      exact jv_less (ls' := [some (.ref (s0.heap.size + (126 : Int).toNat)), some (jv_i a1), some (jv_i a2), none, some (jv_i x4_5), none]) ⟨rfl, ⟨rfl, ⟨rfl, ⟨rfl, trivial⟩⟩⟩⟩ (hJ56 _ _ h)
    obtain ⟨hr_25, h1_25, h2_25⟩ := h
    refine jv_if_eq (tgt := 55) C hr_25 dX9_fitsRow_25 rfl (fun hc_25 => ?_) (fun hc_25 => ?_)
    · replace h := h1_25 hc_25
      exact jv_less (ls' := [some (.ref (s0.heap.size + (126 : Int).toNat)), some (jv_i a1), some (jv_i a2), none, some (jv_i x4_5), none]) ⟨rfl, ⟨rfl, ⟨rfl, ⟨rfl, trivial⟩⟩⟩⟩ (hJ55 _ h)
    · replace h := h2_25 hc_25
      refine jv_iload C dX9_fitsRow_28 rfl ?_
      have hJ51 : ∀ (gj_51 : jv_Mem), wB_X9_fitsRow_51 K5 x4_5 gj_51 → jv_V p l e (jv_rm 1 21 0 0) s m args below meth c 0 0 (jv_ZM below s0 D ids ex jv_SH (jv_qi Q) args s 0 0) s0 D ids ex jv_SH gj_51 51 [some (.ref (s0.heap.size + (126 : Int).toNat)), some (jv_i a1), some (jv_i a2), none, some (jv_i x4_5), none] [] := by
        intro gj_51 h
        unfold wB_X9_fitsRow_51 at h
        refine jv_const C dX9_fitsRow_51 ?_
        refine jv_goto (tgt := 56) C dX9_fitsRow_52 rfl ?_
        exact jv_less (ls' := [some (.ref (s0.heap.size + (126 : Int).toNat)), some (jv_i a1), some (jv_i a2), none, some (jv_i x4_5), none]) ⟨rfl, ⟨rfl, ⟨rfl, ⟨rfl, trivial⟩⟩⟩⟩ (hJ56 _ _ h)
      obtain ⟨hr_30, h1_30, h2_30⟩ := h
      refine jv_if_eq (tgt := 51) C hr_30 dX9_fitsRow_30 rfl (fun hc_30 => ?_) (fun hc_30 => ?_)
      · replace h := h1_30 hc_30
        exact jv_less (ls' := [some (.ref (s0.heap.size + (126 : Int).toNat)), some (jv_i a1), some (jv_i a2), none, some (jv_i x4_5), none]) ⟨rfl, ⟨rfl, ⟨rfl, ⟨rfl, trivial⟩⟩⟩⟩ (hJ51 _ h)
      · replace h := h2_30 hc_30
        refine jv_iload C dX9_fitsRow_33 rfl ?_
        refine jv_aload_n C dX9_fitsRow_35 rfl ?_
        refine jv_getr C kf_X9_16 sS_126 rfl dX9_fitsRow_36 ?_
        refine jv_iload_n C dX9_fitsRow_39 rfl ?_
        obtain ⟨hb_40, h⟩ := h
        refine jv_iald C sS_129 rfl hb_40 dX9_fitsRow_40 ?_
        refine jv_iload C dX9_fitsRow_41 rfl ?_
        refine jv_callSi C (M_X9_letterOf h) kw_X9_107 rfl ⟨rfl, rfl⟩ (st := [jv_i v5_22]) rfl rfl ⟨rfl, rfl⟩ dX9_fitsRow_43 (fun r_43 g_43 h => ?_)
        refine jv_const C dX9_fitsRow_46 ?_
        refine jv_iadd C dX9_fitsRow_47 ?_
        obtain ⟨hr_48, h1_48, h2_48⟩ := h
        refine jv_icmp_ne (tgt := 55) C hr_48.1 hr_48.2 dX9_fitsRow_48 rfl (fun hc_48 => ?_) (fun hc_48 => ?_)
        · replace h := h1_48 hc_48
          exact jv_less (ls' := [some (.ref (s0.heap.size + (126 : Int).toNat)), some (jv_i a1), some (jv_i a2), none, some (jv_i x4_5), none]) ⟨rfl, ⟨rfl, ⟨rfl, ⟨rfl, trivial⟩⟩⟩⟩ (hJ55 _ h)
        · replace h := h2_48 hc_48
          exact jv_less (ls' := [some (.ref (s0.heap.size + (126 : Int).toNat)), some (jv_i a1), some (jv_i a2), none, some (jv_i x4_5), none]) ⟨rfl, ⟨rfl, ⟨rfl, ⟨rfl, trivial⟩⟩⟩⟩ (hJ51 _ h)

def wp_X9_columnOf (a1 : Int) (a2 : Int) (a3 : Int) (a4 : Int) (Q : Int → jv_Mem → Prop) (g : jv_Mem) : Prop :=
  (((0 : Int) ≤ a1 ∧ a1 < (30 : Int)) ∧ (wp_X9_letterOf (g 129 a1) a4 (fun (r_14 : Int) (g_14 : jv_Mem) => (((0 : Int) ≤ a2 ∧ a2 < (30 : Int)) ∧ (wp_X9_letterOf (g_14 129 a2) a4 (fun (r_28 : Int) (g_28 : jv_Mem) => (((0 : Int) ≤ a3 ∧ a3 < (30 : Int)) ∧ (wp_X9_letterOf (g_28 129 a3) a4 (fun (r_41 : Int) (g_41 : jv_Mem) => (((0 : Int) ≤ ((81 * r_14) + (9 * r_28)) + r_41 ∧ ((81 * r_14) + (9 * r_28)) + r_41 < (729 : Int)) ∧ Q ((g_41 128 (((81 * r_14) + (9 * r_28)) + r_41)) - 1) g_41)) g_28))) g_14))) g))
set_option maxHeartbeats 4000000 in
set_option maxRecDepth 100000 in
theorem M_X9_columnOf {l : Launch} {s0 : State} {b0 : Addr} {D : va_G} {ids : Nat → ClassId} {ex : Option Nat} {g : jv_Mem} {a1 : Int} {a2 : Int} {a3 : Int} {a4 : Int} {Q : Int → jv_Mem → Prop} (h : wp_X9_columnOf a1 a2 a3 a4 Q g) : jv_M l s0 b0 D ids yX9_columnOf cX9_columnOf 5 (some .int) 1 21 0 0 ex jv_SH g [.ref (s0.heap.size + (126 : Int).toNat), jv_i a1, jv_i a2, jv_i a3, jv_i a4] ex jv_SH (jv_qi Q) := by
  refine jv_M.of (by decide +kernel) rfl rfl (fun p e s m args below meth c C hml hr hlk hnm => ?_)
  replace C : jv_C p s m args c cX9_columnOf RX9 s0 b0 D ids := C
  show jv_V p l e (jv_rm 1 21 0 0) s m args below meth c 0 0 (jv_ZM below s0 D ids ex jv_SH (jv_qi Q) args s 0 0) s0 D ids ex jv_SH g 0 [some (.ref (s0.heap.size + (126 : Int).toNat)), some (jv_i a1), some (jv_i a2), some (jv_i a3), some (jv_i a4)] []
  unfold wp_X9_columnOf at h
  refine jv_aload_n C dX9_columnOf_0 rfl ?_
  refine jv_getr C kf_X9_13 sS_126 rfl dX9_columnOf_1 ?_
  refine jv_bipush C dX9_columnOf_4 (by decide +kernel) ?_
  refine jv_aload_n C dX9_columnOf_6 rfl ?_
  refine jv_getr C kf_X9_16 sS_126 rfl dX9_columnOf_7 ?_
  refine jv_iload_n C dX9_columnOf_10 rfl ?_
  obtain ⟨hb_11, h⟩ := h
  refine jv_iald C sS_129 rfl hb_11 dX9_columnOf_11 ?_
  refine jv_iload C dX9_columnOf_12 rfl ?_
  refine jv_callSi C (M_X9_letterOf h) kw_X9_107 rfl ⟨rfl, rfl⟩ (st := [jv_i 81, .ref (s0.heap.size + (128 : Int).toNat)]) rfl rfl ⟨rfl, rfl⟩ dX9_columnOf_14 (fun r_14 g_14 h => ?_)
  refine jv_imul C dX9_columnOf_17 ?_
  refine jv_bipush C dX9_columnOf_18 (by decide +kernel) ?_
  refine jv_aload_n C dX9_columnOf_20 rfl ?_
  refine jv_getr C kf_X9_16 sS_126 rfl dX9_columnOf_21 ?_
  refine jv_iload_n C dX9_columnOf_24 rfl ?_
  obtain ⟨hb_25, h⟩ := h
  refine jv_iald C sS_129 rfl hb_25 dX9_columnOf_25 ?_
  refine jv_iload C dX9_columnOf_26 rfl ?_
  refine jv_callSi C (M_X9_letterOf h) kw_X9_107 rfl ⟨rfl, rfl⟩ (st := [jv_i 9, jv_i (81 * r_14), .ref (s0.heap.size + (128 : Int).toNat)]) rfl rfl ⟨rfl, rfl⟩ dX9_columnOf_28 (fun r_28 g_28 h => ?_)
  refine jv_imul C dX9_columnOf_31 ?_
  refine jv_iadd C dX9_columnOf_32 ?_
  refine jv_aload_n C dX9_columnOf_33 rfl ?_
  refine jv_getr C kf_X9_16 sS_126 rfl dX9_columnOf_34 ?_
  refine jv_iload_n C dX9_columnOf_37 rfl ?_
  obtain ⟨hb_38, h⟩ := h
  refine jv_iald C sS_129 rfl hb_38 dX9_columnOf_38 ?_
  refine jv_iload C dX9_columnOf_39 rfl ?_
  refine jv_callSi C (M_X9_letterOf h) kw_X9_107 rfl ⟨rfl, rfl⟩ (st := [jv_i ((81 * r_14) + (9 * r_28)), .ref (s0.heap.size + (128 : Int).toNat)]) rfl rfl ⟨rfl, rfl⟩ dX9_columnOf_41 (fun r_41 g_41 h => ?_)
  refine jv_iadd C dX9_columnOf_44 ?_
  obtain ⟨hb_45, h⟩ := h
  refine jv_iald C sS_128 rfl hb_45 dX9_columnOf_45 ?_
  refine jv_const C dX9_columnOf_46 ?_
  refine jv_isub C dX9_columnOf_47 ?_
  exact jv_iret C hr hlk ⟨_, rfl, h⟩ dX9_columnOf_48 ⟨rfl, rfl⟩

def wp_X9_tries (a1 : Int) (a2 : Int) (a3 : Int) (Q : jv_Mem → Prop) (g : jv_Mem) : Prop :=
  (((0 : Int) ≤ a1 ∧ a1 < (30 : Int)) ∧ (((0 : Int) ≤ a2 ∧ a2 < (30 : Int)) ∧ (((0 : Int) ≤ a3 ∧ a3 < (30 : Int)) ∧ (∀ v4_20 : Int, v4_20 = ((g 130 a1) + (g 130 a2)) + (g 130 a3) → jv_lp2 (fun (K25 : Int → Int → jv_Mem → Prop) (x4_25 x5_25 : Int) (gl_25 : jv_Mem) => ((jv_r x5_25) ∧ (3 ≤ x5_25 → (∀ g_74 : jv_Mem, g_74 = jv_up gl_25 126 8 ((gl_25 126 8) + 1) → ((jv_r x4_25 ∧ jv_r (g_74 126 9)) ∧ (x4_25 ≤ (g_74 126 9) → Q g_74) ∧ ((g_74 126 9) < x4_25 → (∀ g_89 : jv_Mem, g_89 = jv_up g_74 126 9 x4_25 → (((0 : Int) ≤ 0 ∧ 0 < (3 : Int)) ∧ (∀ g_98 : jv_Mem, g_98 = jv_up g_89 133 0 a1 → (((0 : Int) ≤ 1 ∧ 1 < (3 : Int)) ∧ (∀ g_105 : jv_Mem, g_105 = jv_up g_98 133 1 a2 → (((0 : Int) ≤ 2 ∧ 2 < (3 : Int)) ∧ (∀ g_112 : jv_Mem, g_112 = jv_up g_105 133 2 a3 → Q g_112))))))))))) ∧ (x5_25 < 3 → (wp_X9_columnOf a1 a2 a3 x5_25 (fun (r_37 : Int) (g_37 : jv_Mem) => ((jv_r r_37) ∧ (¬ r_37 = ((-1)) → (((0 : Int) ≤ r_37 ∧ r_37 < (30 : Int)) ∧ (∀ v4_59 : Int, v4_59 = x4_25 + (g_37 130 r_37) → (∀ v5_61 : Int, v5_61 = x5_25 + 1 → K25 v4_59 v5_61 g_37)))) ∧ (r_37 = ((-1)) → Q g_37))) gl_25)))) v4_20 0 g))))
set_option maxHeartbeats 4000000 in
set_option maxRecDepth 100000 in
theorem M_X9_tries {l : Launch} {s0 : State} {b0 : Addr} {D : va_G} {ids : Nat → ClassId} {ex : Option Nat} {g : jv_Mem} {a1 : Int} {a2 : Int} {a3 : Int} {Q : jv_Mem → Prop} (h : wp_X9_tries a1 a2 a3 Q g) : jv_M l s0 b0 D ids yX9_tries cX9_tries 7 none 2 45 0 0 ex jv_SH g [.ref (s0.heap.size + (126 : Int).toNat), jv_i a1, jv_i a2, jv_i a3] ex jv_SH (jv_qv Q) := by
  refine jv_M.of (by decide +kernel) rfl rfl (fun p e s m args below meth c C hml hr hlk hnm => ?_)
  replace C : jv_C p s m args c cX9_tries RX9 s0 b0 D ids := C
  show jv_V p l e (jv_rm 2 45 0 0) s m args below meth c 0 0 (jv_ZM below s0 D ids ex jv_SH (jv_qv Q) args s 0 0) s0 D ids ex jv_SH g 0 [some (.ref (s0.heap.size + (126 : Int).toNat)), some (jv_i a1), some (jv_i a2), some (jv_i a3), none, none, none] []
  unfold wp_X9_tries at h
  refine jv_aload_n C dX9_tries_0 rfl ?_
  refine jv_getr C kf_X9_19 sS_126 rfl dX9_tries_1 ?_
  refine jv_iload_n C dX9_tries_4 rfl ?_
  obtain ⟨hb_5, h⟩ := h
  refine jv_iald C sS_130 rfl hb_5 dX9_tries_5 ?_
  refine jv_aload_n C dX9_tries_6 rfl ?_
  refine jv_getr C kf_X9_19 sS_126 rfl dX9_tries_7 ?_
  refine jv_iload_n C dX9_tries_10 rfl ?_
  obtain ⟨hb_11, h⟩ := h
  refine jv_iald C sS_130 rfl hb_11 dX9_tries_11 ?_
  refine jv_iadd C dX9_tries_12 ?_
  refine jv_aload_n C dX9_tries_13 rfl ?_
  refine jv_getr C kf_X9_19 sS_126 rfl dX9_tries_14 ?_
  refine jv_iload_n C dX9_tries_17 rfl ?_
  obtain ⟨hb_18, h⟩ := h
  refine jv_iald C sS_130 rfl hb_18 dX9_tries_18 ?_
  refine jv_iadd C dX9_tries_19 ?_
  refine jv_top (fun v4_20 ev4_20 => ?_)
  replace h := h v4_20 ev4_20
  refine jv_istore (ls' := [some (.ref (s0.heap.size + (126 : Int).toNat)), some (jv_i a1), some (jv_i a2), some (jv_i a3), some (jv_i v4_20), none, none]) C dX9_tries_20 (Nat.lt_of_lt_of_eq (Nat.le_of_ble_eq_true rfl) hml) rfl ?_
  refine jv_const C dX9_tries_22 ?_
  refine jv_istore (ls' := [some (.ref (s0.heap.size + (126 : Int).toNat)), some (jv_i a1), some (jv_i a2), some (jv_i a3), some (jv_i v4_20), some (jv_i 0), none]) C dX9_tries_23 (Nat.lt_of_lt_of_eq (Nat.le_of_ble_eq_true rfl) hml) rfl ?_
  refine jv_less (ls' := [some (.ref (s0.heap.size + (126 : Int).toNat)), some (jv_i a1), some (jv_i a2), some (jv_i a3), some (jv_i v4_20), some (jv_i 0), none]) ⟨rfl, ⟨rfl, ⟨rfl, ⟨rfl, ⟨rfl, ⟨rfl, trivial⟩⟩⟩⟩⟩⟩ ?_
  refine jv_lp2.use h (fun (x4_25 x5_25 : Int) (gl_25 : jv_Mem) => jv_V p l e (jv_rm 2 45 0 0) s m args below meth c 0 0 (jv_ZM below s0 D ids ex jv_SH (jv_qv Q) args s 0 0) s0 D ids ex jv_SH gl_25 25 [some (.ref (s0.heap.size + (126 : Int).toNat)), some (jv_i a1), some (jv_i a2), some (jv_i a3), some (jv_i x4_25), some (jv_i x5_25), none] []) ?_
  intro K25 hK25 x4_25 x5_25 gl_25 h
  refine jv_iload C dX9_tries_25 rfl ?_
  refine jv_const C dX9_tries_27 ?_
  obtain ⟨hr_28, h1_28, h2_28⟩ := h
  refine jv_icmp_ge (tgt := 67) C hr_28 ⟨by decide, by decide⟩ dX9_tries_28 rfl (fun hc_28 => ?_) (fun hc_28 => ?_)
  · replace h := h1_28 hc_28
    refine jv_aload_n C dX9_tries_67 rfl ?_
    refine jv_dup C rfl dX9_tries_68 ?_
    refine jv_geti C kf_X9_115 sS_126 rfl dX9_tries_69 ?_
    refine jv_const C dX9_tries_72 ?_
    refine jv_iadd C dX9_tries_73 ?_
    refine jv_puti C kf_X9_115 sS_126 rfl dX9_tries_74 (jv_gm (fun g_74 eg_74 => ?_))
    replace h := h g_74 eg_74
    refine jv_iload C dX9_tries_77 rfl ?_
    refine jv_aload_n C dX9_tries_79 rfl ?_
    refine jv_geti C kf_X9_118 sS_126 rfl dX9_tries_80 ?_
    obtain ⟨hr_83, h1_83, h2_83⟩ := h
    refine jv_icmp_le (tgt := 113) C hr_83.1 hr_83.2 dX9_tries_83 rfl (fun hc_83 => ?_) (fun hc_83 => ?_)
    · replace h := h1_83 hc_83
      exact jv_vret C hr hlk ⟨rfl, h⟩ dX9_tries_113 ⟨rfl, rfl⟩
    · replace h := h2_83 hc_83
      refine jv_aload_n C dX9_tries_86 rfl ?_
      refine jv_iload C dX9_tries_87 rfl ?_
      refine jv_puti C kf_X9_118 sS_126 rfl dX9_tries_89 (jv_gm (fun g_89 eg_89 => ?_))
      replace h := h g_89 eg_89
      refine jv_aload_n C dX9_tries_92 rfl ?_
      refine jv_getr C kf_X9_28 sS_126 rfl dX9_tries_93 ?_
      refine jv_const C dX9_tries_96 ?_
      refine jv_iload_n C dX9_tries_97 rfl ?_
      obtain ⟨hb_98, h⟩ := h
      refine jv_iast C sS_133 rfl hb_98 dX9_tries_98 (jv_gm (fun g_98 eg_98 => ?_))
      replace h := h g_98 eg_98
      refine jv_aload_n C dX9_tries_99 rfl ?_
      refine jv_getr C kf_X9_28 sS_126 rfl dX9_tries_100 ?_
      refine jv_const C dX9_tries_103 ?_
      refine jv_iload_n C dX9_tries_104 rfl ?_
      obtain ⟨hb_105, h⟩ := h
      refine jv_iast C sS_133 rfl hb_105 dX9_tries_105 (jv_gm (fun g_105 eg_105 => ?_))
      replace h := h g_105 eg_105
      refine jv_aload_n C dX9_tries_106 rfl ?_
      refine jv_getr C kf_X9_28 sS_126 rfl dX9_tries_107 ?_
      refine jv_const C dX9_tries_110 ?_
      refine jv_iload_n C dX9_tries_111 rfl ?_
      obtain ⟨hb_112, h⟩ := h
      refine jv_iast C sS_133 rfl hb_112 dX9_tries_112 (jv_gm (fun g_112 eg_112 => ?_))
      replace h := h g_112 eg_112
      exact jv_vret C hr hlk ⟨rfl, h⟩ dX9_tries_113 ⟨rfl, rfl⟩
  · replace h := h2_28 hc_28
    refine jv_aload_n C dX9_tries_31 rfl ?_
    refine jv_iload_n C dX9_tries_32 rfl ?_
    refine jv_iload_n C dX9_tries_33 rfl ?_
    refine jv_iload_n C dX9_tries_34 rfl ?_
    refine jv_iload C dX9_tries_35 rfl ?_
    refine jv_callVi C (M_X9_columnOf h) kw_X9_111 sS_126 rfl rfl ⟨rfl, rfl⟩ (st := []) rfl rfl ⟨rfl, rfl⟩ dX9_tries_37 (fun r_37 g_37 h => ?_)
    refine jv_istore (ls' := [some (.ref (s0.heap.size + (126 : Int).toNat)), some (jv_i a1), some (jv_i a2), some (jv_i a3), some (jv_i x4_25), some (jv_i x5_25), some (jv_i r_37)]) C dX9_tries_40 (Nat.lt_of_lt_of_eq (Nat.le_of_ble_eq_true rfl) hml) rfl ?_
    refine jv_iload C dX9_tries_42 rfl ?_
    refine jv_const C dX9_tries_44 ?_
    obtain ⟨hr_45, h1_45, h2_45⟩ := h
    refine jv_icmp_ne (tgt := 49) C hr_45 ⟨by decide, by decide⟩ dX9_tries_45 rfl (fun hc_45 => ?_) (fun hc_45 => ?_)
    · replace h := h1_45 hc_45
      refine jv_iload C dX9_tries_49 rfl ?_
      refine jv_aload_n C dX9_tries_51 rfl ?_
      refine jv_getr C kf_X9_19 sS_126 rfl dX9_tries_52 ?_
      refine jv_iload C dX9_tries_55 rfl ?_
      obtain ⟨hb_57, h⟩ := h
      refine jv_iald C sS_130 rfl hb_57 dX9_tries_57 ?_
      refine jv_iadd C dX9_tries_58 ?_
      refine jv_top (fun v4_59 ev4_59 => ?_)
      replace h := h v4_59 ev4_59
      refine jv_istore (ls' := [some (.ref (s0.heap.size + (126 : Int).toNat)), some (jv_i a1), some (jv_i a2), some (jv_i a3), some (jv_i v4_59), some (jv_i x5_25), some (jv_i r_37)]) C dX9_tries_59 (Nat.lt_of_lt_of_eq (Nat.le_of_ble_eq_true rfl) hml) rfl ?_
      refine jv_iincn C dX9_tries_61 (Nat.lt_of_lt_of_eq (Nat.le_of_ble_eq_true rfl) hml) rfl (fun v5_61 ev5_61 => ?_)
      replace h := h v5_61 ev5_61
      refine jv_lset (ls' := [some (.ref (s0.heap.size + (126 : Int).toNat)), some (jv_i a1), some (jv_i a2), some (jv_i a3), some (jv_i v4_59), some (jv_i v5_61), some (jv_i r_37)]) rfl ?_
      refine jv_goto (tgt := 25) C dX9_tries_64 rfl ?_
      exact jv_less (ls' := [some (.ref (s0.heap.size + (126 : Int).toNat)), some (jv_i a1), some (jv_i a2), some (jv_i a3), some (jv_i v4_59), some (jv_i v5_61), none]) ⟨rfl, ⟨rfl, ⟨rfl, ⟨rfl, ⟨rfl, ⟨rfl, trivial⟩⟩⟩⟩⟩⟩ (hK25 _ _ _ h)
    · replace h := h2_45 hc_45
      exact jv_vret C hr hlk ⟨rfl, h⟩ dX9_tries_48 ⟨rfl, rfl⟩

def wB_X9_findsFills_120 (K16 : Int → jv_Mem → Prop) (x1_16 : Int) (gj_120 : jv_Mem) : Prop :=
  (∀ v1_120 : Int, v1_120 = x1_16 + 1 → K16 v1_120 gj_120)
def wB_X9_findsFills_114 (K26 : Int → jv_Mem → Prop) (x2_26 : Int) (gj_114 : jv_Mem) : Prop :=
  (∀ v2_114 : Int, v2_114 = x2_26 + 1 → K26 v2_114 gj_114)
def wB_X9_findsFills_108 (K50 : Int → jv_Mem → Prop) (x3_50 : Int) (gj_108 : jv_Mem) : Prop :=
  (∀ v3_108 : Int, v3_108 = x3_50 + 1 → K50 v3_108 gj_108)
def wp_X9_findsFills (Q : jv_Mem → Prop) (g : jv_Mem) : Prop :=
  (wp_X9_orders (fun (g_1 : jv_Mem) => (∀ g_6 : jv_Mem, g_6 = jv_up g_1 126 8 0 → (∀ g_11 : jv_Mem, g_11 = jv_up g_6 126 9 ((-1)) → jv_lp1 (fun (K16 : Int → jv_Mem → Prop) (x1_16 : Int) (gl_16 : jv_Mem) => ((jv_r x1_16 ∧ jv_r (gl_16 126 2)) ∧ ((gl_16 126 2) ≤ x1_16 → Q gl_16) ∧ (x1_16 < (gl_16 126 2) → jv_lp1 (fun (K26 : Int → jv_Mem → Prop) (x2_26 : Int) (gl_26 : jv_Mem) => ((jv_r x2_26 ∧ jv_r (gl_26 126 2)) ∧ ((gl_26 126 2) ≤ x2_26 → wB_X9_findsFills_120 K16 x1_16 gl_26) ∧ (x2_26 < (gl_26 126 2) → (((0 : Int) ≤ x1_16 ∧ x1_16 < (30 : Int)) ∧ (wp_X9_fitsRow (gl_26 131 x1_16) 0 (fun (r_42 : Int) (g_42 : jv_Mem) => ((jv_r r_42) ∧ (r_42 = 0 → wB_X9_findsFills_120 K16 x1_16 g_42) ∧ (¬ r_42 = 0 → jv_lp1 (fun (K50 : Int → jv_Mem → Prop) (x3_50 : Int) (gl_50 : jv_Mem) => ((jv_r x3_50 ∧ jv_r (gl_50 126 2)) ∧ ((gl_50 126 2) ≤ x3_50 → wB_X9_findsFills_114 K26 x2_26 gl_50) ∧ (x3_50 < (gl_50 126 2) → (((0 : Int) ≤ x2_26 ∧ x2_26 < (30 : Int)) ∧ (wp_X9_fitsRow (gl_50 131 x2_26) 1 (fun (r_66 : Int) (g_66 : jv_Mem) => ((jv_r r_66) ∧ (r_66 = 0 → wB_X9_findsFills_114 K26 x2_26 g_66) ∧ (¬ r_66 = 0 → (((0 : Int) ≤ x3_50 ∧ x3_50 < (30 : Int)) ∧ (wp_X9_fitsRow (g_66 131 x3_50) 2 (fun (r_80 : Int) (g_80 : jv_Mem) => ((jv_r r_80) ∧ (r_80 = 0 → wB_X9_findsFills_108 K50 x3_50 g_80) ∧ (¬ r_80 = 0 → (((0 : Int) ≤ x1_16 ∧ x1_16 < (30 : Int)) ∧ (((0 : Int) ≤ x2_26 ∧ x2_26 < (30 : Int)) ∧ (((0 : Int) ≤ x3_50 ∧ x3_50 < (30 : Int)) ∧ (wp_X9_tries (g_80 131 x1_16) (g_80 131 x2_26) (g_80 131 x3_50) (fun (g_105 : jv_Mem) => wB_X9_findsFills_108 K50 x3_50 g_105) g_80))))))) g_66))))) gl_50))))) 0 g_42))) gl_26))))) 0 gl_16))) 0 g_11))) g)
set_option maxHeartbeats 4000000 in
set_option maxRecDepth 100000 in
theorem M_X9_findsFills {l : Launch} {s0 : State} {b0 : Addr} {D : va_G} {ids : Nat → ClassId} {ex : Option Nat} {g : jv_Mem} {Q : jv_Mem → Prop} (h : wp_X9_findsFills Q g) : jv_M l s0 b0 D ids yX9_findsFills cX9_findsFills 4 none 3 71 0 0 ex jv_SH g [.ref (s0.heap.size + (126 : Int).toNat)] ex jv_SH (jv_qv Q) := by
  refine jv_M.of (by decide +kernel) rfl rfl (fun p e s m args below meth c C hml hr hlk hnm => ?_)
  replace C : jv_C p s m args c cX9_findsFills RX9 s0 b0 D ids := C
  show jv_V p l e (jv_rm 3 71 0 0) s m args below meth c 0 0 (jv_ZM below s0 D ids ex jv_SH (jv_qv Q) args s 0 0) s0 D ids ex jv_SH g 0 [some (.ref (s0.heap.size + (126 : Int).toNat)), none, none, none] []
  unfold wp_X9_findsFills at h
  refine jv_aload_n C dX9_findsFills_0 rfl ?_
  refine jv_callVv C (M_X9_orders h) kw_X9_104 sS_126 rfl rfl ⟨rfl, rfl⟩ (st := []) rfl rfl ⟨rfl, rfl⟩ dX9_findsFills_1 (fun g_1 h => ?_)
  refine jv_aload_n C dX9_findsFills_4 rfl ?_
  refine jv_const C dX9_findsFills_5 ?_
  refine jv_puti C kf_X9_115 sS_126 rfl dX9_findsFills_6 (jv_gm (fun g_6 eg_6 => ?_))
  replace h := h g_6 eg_6
  refine jv_aload_n C dX9_findsFills_9 rfl ?_
  refine jv_const C dX9_findsFills_10 ?_
  refine jv_puti C kf_X9_118 sS_126 rfl dX9_findsFills_11 (jv_gm (fun g_11 eg_11 => ?_))
  replace h := h g_11 eg_11
  refine jv_const C dX9_findsFills_14 ?_
  refine jv_istore_n (ls' := [some (.ref (s0.heap.size + (126 : Int).toNat)), some (jv_i 0), none, none]) C dX9_findsFills_15 (Nat.lt_of_lt_of_eq (Nat.le_of_ble_eq_true rfl) hml) rfl ?_
  refine jv_less (ls' := [some (.ref (s0.heap.size + (126 : Int).toNat)), some (jv_i 0), none, none]) ⟨rfl, ⟨rfl, trivial⟩⟩ ?_
  refine jv_lp1.use h (fun (x1_16 : Int) (gl_16 : jv_Mem) => jv_V p l e (jv_rm 3 71 0 0) s m args below meth c 0 0 (jv_ZM below s0 D ids ex jv_SH (jv_qv Q) args s 0 0) s0 D ids ex jv_SH gl_16 16 [some (.ref (s0.heap.size + (126 : Int).toNat)), some (jv_i x1_16), none, none] []) ?_
  intro K16 hK16 x1_16 gl_16 h
  refine jv_iload_n C dX9_findsFills_16 rfl ?_
  refine jv_aload_n C dX9_findsFills_17 rfl ?_
  refine jv_geti C kf_X9_94 sS_126 rfl dX9_findsFills_18 ?_
  obtain ⟨hr_21, h1_21, h2_21⟩ := h
  refine jv_icmp_ge (tgt := 126) C hr_21.1 hr_21.2 dX9_findsFills_21 rfl (fun hc_21 => ?_) (fun hc_21 => ?_)
  · replace h := h1_21 hc_21
    exact jv_vret C hr hlk ⟨rfl, h⟩ dX9_findsFills_126 ⟨rfl, rfl⟩
  · replace h := h2_21 hc_21
    refine jv_const C dX9_findsFills_24 ?_
    refine jv_istore_n (ls' := [some (.ref (s0.heap.size + (126 : Int).toNat)), some (jv_i x1_16), some (jv_i 0), none]) C dX9_findsFills_25 (Nat.lt_of_lt_of_eq (Nat.le_of_ble_eq_true rfl) hml) rfl ?_
    refine jv_less (ls' := [some (.ref (s0.heap.size + (126 : Int).toNat)), some (jv_i x1_16), some (jv_i 0), none]) ⟨rfl, ⟨rfl, ⟨rfl, trivial⟩⟩⟩ ?_
    refine jv_lp1.use h (fun (x2_26 : Int) (gl_26 : jv_Mem) => jv_V p l e (jv_rm 3 71 0 0) s m args below meth c 0 0 (jv_ZM below s0 D ids ex jv_SH (jv_qv Q) args s 0 0) s0 D ids ex jv_SH gl_26 26 [some (.ref (s0.heap.size + (126 : Int).toNat)), some (jv_i x1_16), some (jv_i x2_26), none] []) ?_
    intro K26 hK26 x2_26 gl_26 h
    refine jv_iload_n C dX9_findsFills_26 rfl ?_
    refine jv_aload_n C dX9_findsFills_27 rfl ?_
    refine jv_geti C kf_X9_94 sS_126 rfl dX9_findsFills_28 ?_
    have hJ120 : ∀ (gj_120 : jv_Mem), wB_X9_findsFills_120 K16 x1_16 gj_120 → jv_V p l e (jv_rm 3 71 0 0) s m args below meth c 0 0 (jv_ZM below s0 D ids ex jv_SH (jv_qv Q) args s 0 0) s0 D ids ex jv_SH gj_120 120 [some (.ref (s0.heap.size + (126 : Int).toNat)), some (jv_i x1_16), none, none] [] := by
      intro gj_120 h
      unfold wB_X9_findsFills_120 at h
      refine jv_iincn C dX9_findsFills_120 (Nat.lt_of_lt_of_eq (Nat.le_of_ble_eq_true rfl) hml) rfl (fun v1_120 ev1_120 => ?_)
      replace h := h v1_120 ev1_120
      refine jv_lset (ls' := [some (.ref (s0.heap.size + (126 : Int).toNat)), some (jv_i v1_120), none, none]) rfl ?_
      refine jv_goto (tgt := 16) C dX9_findsFills_123 rfl ?_
      exact jv_less (ls' := [some (.ref (s0.heap.size + (126 : Int).toNat)), some (jv_i v1_120), none, none]) ⟨rfl, ⟨rfl, trivial⟩⟩ (hK16 _ _ h)
    obtain ⟨hr_31, h1_31, h2_31⟩ := h
    refine jv_icmp_ge (tgt := 120) C hr_31.1 hr_31.2 dX9_findsFills_31 rfl (fun hc_31 => ?_) (fun hc_31 => ?_)
    · replace h := h1_31 hc_31
      exact jv_less (ls' := [some (.ref (s0.heap.size + (126 : Int).toNat)), some (jv_i x1_16), none, none]) ⟨rfl, ⟨rfl, trivial⟩⟩ (hJ120 _ h)
    · replace h := h2_31 hc_31
      refine jv_aload_n C dX9_findsFills_34 rfl ?_
      refine jv_aload_n C dX9_findsFills_35 rfl ?_
      refine jv_getr C kf_X9_22 sS_126 rfl dX9_findsFills_36 ?_
      refine jv_iload_n C dX9_findsFills_39 rfl ?_
      obtain ⟨hb_40, h⟩ := h
      refine jv_iald C sS_131 rfl hb_40 dX9_findsFills_40 ?_
      refine jv_const C dX9_findsFills_41 ?_
      refine jv_callVi C (M_X9_fitsRow h) kw_X9_121 sS_126 rfl rfl ⟨rfl, rfl⟩ (st := []) rfl rfl ⟨rfl, rfl⟩ dX9_findsFills_42 (fun r_42 g_42 h => ?_)
      obtain ⟨hr_45, h1_45, h2_45⟩ := h
      refine jv_if_eq (tgt := 120) C hr_45 dX9_findsFills_45 rfl (fun hc_45 => ?_) (fun hc_45 => ?_)
      · replace h := h1_45 hc_45
        exact jv_less (ls' := [some (.ref (s0.heap.size + (126 : Int).toNat)), some (jv_i x1_16), none, none]) ⟨rfl, ⟨rfl, trivial⟩⟩ (hJ120 _ h)
      · replace h := h2_45 hc_45
        refine jv_const C dX9_findsFills_48 ?_
        refine jv_istore_n (ls' := [some (.ref (s0.heap.size + (126 : Int).toNat)), some (jv_i x1_16), some (jv_i x2_26), some (jv_i 0)]) C dX9_findsFills_49 (Nat.lt_of_lt_of_eq (Nat.le_of_ble_eq_true rfl) hml) rfl ?_
        refine jv_less (ls' := [some (.ref (s0.heap.size + (126 : Int).toNat)), some (jv_i x1_16), some (jv_i x2_26), some (jv_i 0)]) ⟨rfl, ⟨rfl, ⟨rfl, ⟨rfl, trivial⟩⟩⟩⟩ ?_
        refine jv_lp1.use h (fun (x3_50 : Int) (gl_50 : jv_Mem) => jv_V p l e (jv_rm 3 71 0 0) s m args below meth c 0 0 (jv_ZM below s0 D ids ex jv_SH (jv_qv Q) args s 0 0) s0 D ids ex jv_SH gl_50 50 [some (.ref (s0.heap.size + (126 : Int).toNat)), some (jv_i x1_16), some (jv_i x2_26), some (jv_i x3_50)] []) ?_
        intro K50 hK50 x3_50 gl_50 h
        refine jv_iload_n C dX9_findsFills_50 rfl ?_
        refine jv_aload_n C dX9_findsFills_51 rfl ?_
        refine jv_geti C kf_X9_94 sS_126 rfl dX9_findsFills_52 ?_
        have hJ114 : ∀ (gj_114 : jv_Mem), wB_X9_findsFills_114 K26 x2_26 gj_114 → jv_V p l e (jv_rm 3 71 0 0) s m args below meth c 0 0 (jv_ZM below s0 D ids ex jv_SH (jv_qv Q) args s 0 0) s0 D ids ex jv_SH gj_114 114 [some (.ref (s0.heap.size + (126 : Int).toNat)), some (jv_i x1_16), some (jv_i x2_26), none] [] := by
          intro gj_114 h
          unfold wB_X9_findsFills_114 at h
          refine jv_iincn C dX9_findsFills_114 (Nat.lt_of_lt_of_eq (Nat.le_of_ble_eq_true rfl) hml) rfl (fun v2_114 ev2_114 => ?_)
          replace h := h v2_114 ev2_114
          refine jv_lset (ls' := [some (.ref (s0.heap.size + (126 : Int).toNat)), some (jv_i x1_16), some (jv_i v2_114), none]) rfl ?_
          refine jv_goto (tgt := 26) C dX9_findsFills_117 rfl ?_
          exact jv_less (ls' := [some (.ref (s0.heap.size + (126 : Int).toNat)), some (jv_i x1_16), some (jv_i v2_114), none]) ⟨rfl, ⟨rfl, ⟨rfl, trivial⟩⟩⟩ (hK26 _ _ h)
        obtain ⟨hr_55, h1_55, h2_55⟩ := h
        refine jv_icmp_ge (tgt := 114) C hr_55.1 hr_55.2 dX9_findsFills_55 rfl (fun hc_55 => ?_) (fun hc_55 => ?_)
        · replace h := h1_55 hc_55
          exact jv_less (ls' := [some (.ref (s0.heap.size + (126 : Int).toNat)), some (jv_i x1_16), some (jv_i x2_26), none]) ⟨rfl, ⟨rfl, ⟨rfl, trivial⟩⟩⟩ (hJ114 _ h)
        · replace h := h2_55 hc_55
          refine jv_aload_n C dX9_findsFills_58 rfl ?_
          refine jv_aload_n C dX9_findsFills_59 rfl ?_
          refine jv_getr C kf_X9_22 sS_126 rfl dX9_findsFills_60 ?_
          refine jv_iload_n C dX9_findsFills_63 rfl ?_
          obtain ⟨hb_64, h⟩ := h
          refine jv_iald C sS_131 rfl hb_64 dX9_findsFills_64 ?_
          refine jv_const C dX9_findsFills_65 ?_
          refine jv_callVi C (M_X9_fitsRow h) kw_X9_121 sS_126 rfl rfl ⟨rfl, rfl⟩ (st := []) rfl rfl ⟨rfl, rfl⟩ dX9_findsFills_66 (fun r_66 g_66 h => ?_)
          obtain ⟨hr_69, h1_69, h2_69⟩ := h
          refine jv_if_eq (tgt := 114) C hr_69 dX9_findsFills_69 rfl (fun hc_69 => ?_) (fun hc_69 => ?_)
          · replace h := h1_69 hc_69
            exact jv_less (ls' := [some (.ref (s0.heap.size + (126 : Int).toNat)), some (jv_i x1_16), some (jv_i x2_26), none]) ⟨rfl, ⟨rfl, ⟨rfl, trivial⟩⟩⟩ (hJ114 _ h)
          · replace h := h2_69 hc_69
            refine jv_aload_n C dX9_findsFills_72 rfl ?_
            refine jv_aload_n C dX9_findsFills_73 rfl ?_
            refine jv_getr C kf_X9_22 sS_126 rfl dX9_findsFills_74 ?_
            refine jv_iload_n C dX9_findsFills_77 rfl ?_
            obtain ⟨hb_78, h⟩ := h
            refine jv_iald C sS_131 rfl hb_78 dX9_findsFills_78 ?_
            refine jv_const C dX9_findsFills_79 ?_
            refine jv_callVi C (M_X9_fitsRow h) kw_X9_121 sS_126 rfl rfl ⟨rfl, rfl⟩ (st := []) rfl rfl ⟨rfl, rfl⟩ dX9_findsFills_80 (fun r_80 g_80 h => ?_)
            have hJ108 : ∀ (gj_108 : jv_Mem), wB_X9_findsFills_108 K50 x3_50 gj_108 → jv_V p l e (jv_rm 3 71 0 0) s m args below meth c 0 0 (jv_ZM below s0 D ids ex jv_SH (jv_qv Q) args s 0 0) s0 D ids ex jv_SH gj_108 108 [some (.ref (s0.heap.size + (126 : Int).toNat)), some (jv_i x1_16), some (jv_i x2_26), some (jv_i x3_50)] [] := by
              intro gj_108 h
              unfold wB_X9_findsFills_108 at h
              refine jv_iincn C dX9_findsFills_108 (Nat.lt_of_lt_of_eq (Nat.le_of_ble_eq_true rfl) hml) rfl (fun v3_108 ev3_108 => ?_)
              replace h := h v3_108 ev3_108
              refine jv_lset (ls' := [some (.ref (s0.heap.size + (126 : Int).toNat)), some (jv_i x1_16), some (jv_i x2_26), some (jv_i v3_108)]) rfl ?_
              refine jv_goto (tgt := 50) C dX9_findsFills_111 rfl ?_
              exact jv_less (ls' := [some (.ref (s0.heap.size + (126 : Int).toNat)), some (jv_i x1_16), some (jv_i x2_26), some (jv_i v3_108)]) ⟨rfl, ⟨rfl, ⟨rfl, ⟨rfl, trivial⟩⟩⟩⟩ (hK50 _ _ h)
            obtain ⟨hr_83, h1_83, h2_83⟩ := h
            refine jv_if_eq (tgt := 108) C hr_83 dX9_findsFills_83 rfl (fun hc_83 => ?_) (fun hc_83 => ?_)
            · replace h := h1_83 hc_83
              exact jv_less (ls' := [some (.ref (s0.heap.size + (126 : Int).toNat)), some (jv_i x1_16), some (jv_i x2_26), some (jv_i x3_50)]) ⟨rfl, ⟨rfl, ⟨rfl, ⟨rfl, trivial⟩⟩⟩⟩ (hJ108 _ h)
            · replace h := h2_83 hc_83
              refine jv_aload_n C dX9_findsFills_86 rfl ?_
              refine jv_aload_n C dX9_findsFills_87 rfl ?_
              refine jv_getr C kf_X9_22 sS_126 rfl dX9_findsFills_88 ?_
              refine jv_iload_n C dX9_findsFills_91 rfl ?_
              obtain ⟨hb_92, h⟩ := h
              refine jv_iald C sS_131 rfl hb_92 dX9_findsFills_92 ?_
              refine jv_aload_n C dX9_findsFills_93 rfl ?_
              refine jv_getr C kf_X9_22 sS_126 rfl dX9_findsFills_94 ?_
              refine jv_iload_n C dX9_findsFills_97 rfl ?_
              obtain ⟨hb_98, h⟩ := h
              refine jv_iald C sS_131 rfl hb_98 dX9_findsFills_98 ?_
              refine jv_aload_n C dX9_findsFills_99 rfl ?_
              refine jv_getr C kf_X9_22 sS_126 rfl dX9_findsFills_100 ?_
              refine jv_iload_n C dX9_findsFills_103 rfl ?_
              obtain ⟨hb_104, h⟩ := h
              refine jv_iald C sS_131 rfl hb_104 dX9_findsFills_104 ?_
              refine jv_callVv C (M_X9_tries h) kw_X9_125 sS_126 rfl rfl ⟨rfl, rfl⟩ (st := []) rfl rfl ⟨rfl, rfl⟩ dX9_findsFills_105 (fun g_105 h => ?_)
              exact jv_less (ls' := [some (.ref (s0.heap.size + (126 : Int).toNat)), some (jv_i x1_16), some (jv_i x2_26), some (jv_i x3_50)]) ⟨rfl, ⟨rfl, ⟨rfl, ⟨rfl, trivial⟩⟩⟩⟩ (hJ108 _ h)

def wp_X9_fillWeight (Q : Int → jv_Mem → Prop) (g : jv_Mem) : Prop :=
  (∀ g_2 : jv_Mem, g_2 = jv_up g 126 29 0 → (wp_X9_findsFills (fun (g_6 : jv_Mem) => Q (g_6 126 9) g_6) g_2))
set_option maxHeartbeats 4000000 in
set_option maxRecDepth 100000 in
theorem M_X9_fillWeight {l : Launch} {s0 : State} {b0 : Addr} {D : va_G} {ids : Nat → ClassId} {ex : Option Nat} {g : jv_Mem} {Q : Int → jv_Mem → Prop} (h : wp_X9_fillWeight Q g) : jv_M l s0 b0 D ids yX9_fillWeight cX9_fillWeight 1 (some .int) 4 94 0 0 ex jv_SH g [.ref (s0.heap.size + (126 : Int).toNat)] ex jv_SH (jv_qi Q) := by
  refine jv_M.of (by decide +kernel) rfl rfl (fun p e s m args below meth c C hml hr hlk hnm => ?_)
  replace C : jv_C p s m args c cX9_fillWeight RX9 s0 b0 D ids := C
  show jv_V p l e (jv_rm 4 94 0 0) s m args below meth c 0 0 (jv_ZM below s0 D ids ex jv_SH (jv_qi Q) args s 0 0) s0 D ids ex jv_SH g 0 [some (.ref (s0.heap.size + (126 : Int).toNat))] []
  unfold wp_X9_fillWeight at h
  refine jv_aload_n C dX9_fillWeight_0 rfl ?_
  refine jv_const C dX9_fillWeight_1 ?_
  refine jv_puti C kf_X9_73 sS_126 rfl dX9_fillWeight_2 (jv_gm (fun g_2 eg_2 => ?_))
  replace h := h g_2 eg_2
  refine jv_aload_n C dX9_fillWeight_5 rfl ?_
  refine jv_callVv C (M_X9_findsFills h) kw_X9_129 sS_126 rfl rfl ⟨rfl, rfl⟩ (st := []) rfl rfl ⟨rfl, rfl⟩ dX9_fillWeight_6 (fun g_6 h => ?_)
  refine jv_aload_n C dX9_fillWeight_9 rfl ?_
  refine jv_geti C kf_X9_118 sS_126 rfl dX9_fillWeight_10 ?_
  exact jv_iret C hr hlk ⟨_, rfl, h⟩ dX9_fillWeight_13 ⟨rfl, rfl⟩

def wp_X9_fillWeightByAll (Q : Int → jv_Mem → Prop) (g : jv_Mem) : Prop :=
  (wp_X9_fillWeight (fun (r_1 : Int) (g_1 : jv_Mem) => Q r_1 g_1) g)
set_option maxHeartbeats 4000000 in
set_option maxRecDepth 100000 in
theorem M_X9_fillWeightByAll {l : Launch} {s0 : State} {b0 : Addr} {D : va_G} {ids : Nat → ClassId} {ex : Option Nat} {g : jv_Mem} {Q : Int → jv_Mem → Prop} (h : wp_X9_fillWeightByAll Q g) : jv_M l s0 b0 D ids yX9_fillWeightByAll cX9_fillWeightByAll 1 (some .int) 5 114 0 0 ex jv_SH g [.ref (s0.heap.size + (126 : Int).toNat)] ex jv_SH (jv_qi Q) := by
  refine jv_M.of (by decide +kernel) rfl rfl (fun p e s m args below meth c C hml hr hlk hnm => ?_)
  replace C : jv_C p s m args c cX9_fillWeightByAll RX9 s0 b0 D ids := C
  show jv_V p l e (jv_rm 5 114 0 0) s m args below meth c 0 0 (jv_ZM below s0 D ids ex jv_SH (jv_qi Q) args s 0 0) s0 D ids ex jv_SH g 0 [some (.ref (s0.heap.size + (126 : Int).toNat))] []
  unfold wp_X9_fillWeightByAll at h
  refine jv_aload_n C dX9_fillWeightByAll_0 rfl ?_
  refine jv_callVi C (M_X9_fillWeight h) kw_X9_132 sS_126 rfl rfl ⟨rfl, rfl⟩ (st := []) rfl rfl ⟨rfl, rfl⟩ dX9_fillWeightByAll_1 (fun r_1 g_1 h => ?_)
  exact jv_iret C hr hlk ⟨_, rfl, h⟩ dX9_fillWeightByAll_4 ⟨rfl, rfl⟩

def wp_X9_fills (Q : Int → jv_Mem → Prop) (g : jv_Mem) : Prop :=
  (∀ g_2 : jv_Mem, g_2 = jv_up g 126 29 0 → (wp_X9_findsFills (fun (g_6 : jv_Mem) => Q (g_6 126 8) g_6) g_2))
set_option maxHeartbeats 4000000 in
set_option maxRecDepth 100000 in
theorem M_X9_fills {l : Launch} {s0 : State} {b0 : Addr} {D : va_G} {ids : Nat → ClassId} {ex : Option Nat} {g : jv_Mem} {Q : Int → jv_Mem → Prop} (h : wp_X9_fills Q g) : jv_M l s0 b0 D ids yX9_fills cX9_fills 1 (some .int) 4 94 0 0 ex jv_SH g [.ref (s0.heap.size + (126 : Int).toNat)] ex jv_SH (jv_qi Q) := by
  refine jv_M.of (by decide +kernel) rfl rfl (fun p e s m args below meth c C hml hr hlk hnm => ?_)
  replace C : jv_C p s m args c cX9_fills RX9 s0 b0 D ids := C
  show jv_V p l e (jv_rm 4 94 0 0) s m args below meth c 0 0 (jv_ZM below s0 D ids ex jv_SH (jv_qi Q) args s 0 0) s0 D ids ex jv_SH g 0 [some (.ref (s0.heap.size + (126 : Int).toNat))] []
  unfold wp_X9_fills at h
  refine jv_aload_n C dX9_fills_0 rfl ?_
  refine jv_const C dX9_fills_1 ?_
  refine jv_puti C kf_X9_73 sS_126 rfl dX9_fills_2 (jv_gm (fun g_2 eg_2 => ?_))
  replace h := h g_2 eg_2
  refine jv_aload_n C dX9_fills_5 rfl ?_
  refine jv_callVv C (M_X9_findsFills h) kw_X9_129 sS_126 rfl rfl ⟨rfl, rfl⟩ (st := []) rfl rfl ⟨rfl, rfl⟩ dX9_fills_6 (fun g_6 h => ?_)
  refine jv_aload_n C dX9_fills_9 rfl ?_
  refine jv_geti C kf_X9_115 sS_126 rfl dX9_fills_10 ?_
  exact jv_iret C hr hlk ⟨_, rfl, h⟩ dX9_fills_13 ⟨rfl, rfl⟩

def wB_X9_fillAt_16 (a1 : Int) (Q : Int → jv_Mem → Prop) (y0_16 : Int) (gj_16 : jv_Mem) : Prop :=
  (∀ g_16 : jv_Mem, g_16 = jv_up gj_16 126 29 y0_16 → ((jv_r (g_16 126 29)) ∧ ((g_16 126 29) ≤ 0 → (wp_X9_findsFills (fun (g_29 : jv_Mem) => ((jv_r (g_29 126 9)) ∧ (¬ (g_29 126 9) = ((-1)) → (((0 : Int) ≤ jv_div a1 3 ∧ jv_div a1 3 < (3 : Int)) ∧ (((0 : Int) ≤ g_29 133 (jv_div a1 3) ∧ g_29 133 (jv_div a1 3) < (30 : Int)) ∧ (wp_X9_letterOf (g_29 129 (g_29 133 (jv_div a1 3))) (jv_rem a1 3) (fun (r_64 : Int) (g_64 : jv_Mem) => Q r_64 g_64) g_29)))) ∧ ((g_29 126 9) = ((-1)) → (wp_X9_fails 2 (fun (r_42 : Int) (g_42 : jv_Mem) => Q r_42 g_42) g_29)))) g_16)) ∧ (0 < (g_16 126 29) → Q 0 g_16)))
def wp_X9_fillAt (a1 : Int) (Q : Int → jv_Mem → Prop) (g : jv_Mem) : Prop :=
  (wp_X9_in a1 0 8 (fun (r_5 : Int) (g_5 : jv_Mem) => ((jv_r r_5) ∧ (r_5 = 0 → wB_X9_fillAt_16 a1 Q 1 g_5) ∧ (¬ r_5 = 0 → wB_X9_fillAt_16 a1 Q 0 g_5))) g)
set_option maxHeartbeats 4000000 in
set_option maxRecDepth 100000 in
theorem M_X9_fillAt {l : Launch} {s0 : State} {b0 : Addr} {D : va_G} {ids : Nat → ClassId} {ex : Option Nat} {g : jv_Mem} {a1 : Int} {Q : Int → jv_Mem → Prop} (h : wp_X9_fillAt a1 Q g) : jv_M l s0 b0 D ids yX9_fillAt cX9_fillAt 2 (some .int) 4 94 0 0 ex jv_SH g [.ref (s0.heap.size + (126 : Int).toNat), jv_i a1] ex jv_SH (jv_qi Q) := by
  refine jv_M.of (by decide +kernel) rfl rfl (fun p e s m args below meth c C hml hr hlk hnm => ?_)
  replace C : jv_C p s m args c cX9_fillAt RX9 s0 b0 D ids := C
  show jv_V p l e (jv_rm 4 94 0 0) s m args below meth c 0 0 (jv_ZM below s0 D ids ex jv_SH (jv_qi Q) args s 0 0) s0 D ids ex jv_SH g 0 [some (.ref (s0.heap.size + (126 : Int).toNat)), some (jv_i a1)] []
  unfold wp_X9_fillAt at h
  refine jv_aload_n C dX9_fillAt_0 rfl ?_
  refine jv_iload_n C dX9_fillAt_1 rfl ?_
  refine jv_const C dX9_fillAt_2 ?_
  refine jv_bipush C dX9_fillAt_3 (by decide +kernel) ?_
  refine jv_callSi C (M_X9_in h) kw_X9_80 rfl ⟨rfl, rfl⟩ (st := [.ref (s0.heap.size + (126 : Int).toNat)]) rfl rfl ⟨rfl, rfl⟩ dX9_fillAt_5 (fun r_5 g_5 h => ?_)
  have hJ16 : ∀ (y0_16 : Int) (gj_16 : jv_Mem), wB_X9_fillAt_16 a1 Q y0_16 gj_16 → jv_V p l e (jv_rm 4 94 0 0) s m args below meth c 0 0 (jv_ZM below s0 D ids ex jv_SH (jv_qi Q) args s 0 0) s0 D ids ex jv_SH gj_16 16 [some (.ref (s0.heap.size + (126 : Int).toNat)), some (jv_i a1)] [jv_i y0_16, .ref (s0.heap.size + (126 : Int).toNat)] := by
    intro y0_16 gj_16 h
    unfold wB_X9_fillAt_16 at h
    refine jv_puti C kf_X9_73 sS_126 rfl dX9_fillAt_16 (jv_gm (fun g_16 eg_16 => ?_))
    replace h := h g_16 eg_16
    refine jv_aload_n C dX9_fillAt_19 rfl ?_
    refine jv_geti C kf_X9_73 sS_126 rfl dX9_fillAt_20 ?_
    obtain ⟨hr_23, h1_23, h2_23⟩ := h
    refine jv_if_le (tgt := 28) C hr_23 dX9_fillAt_23 rfl (fun hc_23 => ?_) (fun hc_23 => ?_)
    · replace h := h1_23 hc_23
      refine jv_aload_n C dX9_fillAt_28 rfl ?_
      refine jv_callVv C (M_X9_findsFills h) kw_X9_129 sS_126 rfl rfl ⟨rfl, rfl⟩ (st := []) rfl rfl ⟨rfl, rfl⟩ dX9_fillAt_29 (fun g_29 h => ?_)
      refine jv_aload_n C dX9_fillAt_32 rfl ?_
      refine jv_geti C kf_X9_118 sS_126 rfl dX9_fillAt_33 ?_
      refine jv_const C dX9_fillAt_36 ?_
      obtain ⟨hr_37, h1_37, h2_37⟩ := h
      refine jv_icmp_ne (tgt := 48) C hr_37 ⟨by decide, by decide⟩ dX9_fillAt_37 rfl (fun hc_37 => ?_) (fun hc_37 => ?_)
      · replace h := h1_37 hc_37
        refine jv_aload_n C dX9_fillAt_48 rfl ?_
        refine jv_getr C kf_X9_16 sS_126 rfl dX9_fillAt_49 ?_
        refine jv_aload_n C dX9_fillAt_52 rfl ?_
        refine jv_getr C kf_X9_28 sS_126 rfl dX9_fillAt_53 ?_
        refine jv_iload_n C dX9_fillAt_56 rfl ?_
        refine jv_const C dX9_fillAt_57 ?_
        refine jv_idiv C (by decide +kernel) dX9_fillAt_58 ?_
        obtain ⟨hb_59, h⟩ := h
        refine jv_iald C sS_133 rfl hb_59 dX9_fillAt_59 ?_
        obtain ⟨hb_60, h⟩ := h
        refine jv_iald C sS_129 rfl hb_60 dX9_fillAt_60 ?_
        refine jv_iload_n C dX9_fillAt_61 rfl ?_
        refine jv_const C dX9_fillAt_62 ?_
        refine jv_irem C (by decide +kernel) dX9_fillAt_63 ?_
        refine jv_callSi C (M_X9_letterOf h) kw_X9_107 rfl ⟨rfl, rfl⟩ (st := []) rfl rfl ⟨rfl, rfl⟩ dX9_fillAt_64 (fun r_64 g_64 h => ?_)
        exact jv_iret C hr hlk ⟨_, rfl, h⟩ dX9_fillAt_67 ⟨rfl, rfl⟩
      · replace h := h2_37 hc_37
        refine jv_aload_n C dX9_fillAt_40 rfl ?_
        refine jv_const C dX9_fillAt_41 ?_
        refine jv_callVi C (M_X9_fails h) kw_X9_97 sS_126 rfl rfl ⟨rfl, rfl⟩ (st := []) rfl rfl ⟨rfl, rfl⟩ dX9_fillAt_42 (fun r_42 g_42 h => ?_)
        refine jv_goto (tgt := 67) C dX9_fillAt_45 rfl ?_
        exact jv_iret C hr hlk ⟨_, rfl, h⟩ dX9_fillAt_67 ⟨rfl, rfl⟩
    · replace h := h2_23 hc_23
      refine jv_const C dX9_fillAt_26 ?_
      exact jv_iret C hr hlk ⟨_, rfl, h⟩ dX9_fillAt_27 ⟨rfl, rfl⟩
  obtain ⟨hr_8, h1_8, h2_8⟩ := h
  refine jv_if_eq (tgt := 15) C hr_8 dX9_fillAt_8 rfl (fun hc_8 => ?_) (fun hc_8 => ?_)
  · replace h := h1_8 hc_8
    refine jv_const C dX9_fillAt_15 ?_
    exact jv_less (ls' := [some (.ref (s0.heap.size + (126 : Int).toNat)), some (jv_i a1)]) ⟨rfl, ⟨rfl, trivial⟩⟩ (hJ16 _ _ h)
  · replace h := h2_8 hc_8
    refine jv_const C dX9_fillAt_11 ?_
    refine jv_goto (tgt := 16) C dX9_fillAt_12 rfl ?_
    exact jv_less (ls' := [some (.ref (s0.heap.size + (126 : Int).toNat)), some (jv_i a1)]) ⟨rfl, ⟨rfl, trivial⟩⟩ (hJ16 _ _ h)

def wp_X9_isClue (a1 : Int) (Q : Int → jv_Mem → Prop) (g : jv_Mem) : Prop :=
  (wp_X9_in a1 0 ((g 126 11) - 1) (fun (r_8 : Int) (g_8 : jv_Mem) => ((r_8 = 0 ∨ r_8 = 1) ∧ Q r_8 g_8)) g)
set_option maxHeartbeats 4000000 in
set_option maxRecDepth 100000 in
theorem M_X9_isClue {l : Launch} {s0 : State} {b0 : Addr} {D : va_G} {ids : Nat → ClassId} {ex : Option Nat} {g : jv_Mem} {a1 : Int} {Q : Int → jv_Mem → Prop} (h : wp_X9_isClue a1 Q g) : jv_M l s0 b0 D ids yX9_isClue cX9_isClue 2 (some .boolean) 1 22 0 0 ex jv_SH g [.ref (s0.heap.size + (126 : Int).toNat), jv_i a1] ex jv_SH (jv_qi Q) := by
  refine jv_M.of (by decide +kernel) rfl rfl (fun p e s m args below meth c C hml hr hlk hnm => ?_)
  replace C : jv_C p s m args c cX9_isClue RX9 s0 b0 D ids := C
  show jv_V p l e (jv_rm 1 22 0 0) s m args below meth c 0 0 (jv_ZM below s0 D ids ex jv_SH (jv_qi Q) args s 0 0) s0 D ids ex jv_SH g 0 [some (.ref (s0.heap.size + (126 : Int).toNat)), some (jv_i a1)] []
  unfold wp_X9_isClue at h
  refine jv_iload_n C dX9_isClue_0 rfl ?_
  refine jv_const C dX9_isClue_1 ?_
  refine jv_aload_n C dX9_isClue_2 rfl ?_
  refine jv_geti C kf_X9_135 sS_126 rfl dX9_isClue_3 ?_
  refine jv_const C dX9_isClue_6 ?_
  refine jv_isub C dX9_isClue_7 ?_
  refine jv_callSi C (M_X9_in h) kw_X9_80 rfl ⟨rfl, rfl⟩ (st := []) rfl rfl ⟨rfl, rfl⟩ dX9_isClue_8 (fun r_8 g_8 h => ?_)
  obtain ⟨hz_11, h⟩ := h
  exact jv_zret C hr hlk (jv_nz hz_11) ⟨_, rfl, h⟩ dX9_isClue_11 ⟨rfl, rfl⟩

def wB_X9_clue_27 (a1 : Int) (Q : Int → jv_Mem → Prop) (y0_27 : Int) (gj_27 : jv_Mem) : Prop :=
  (∀ g_27 : jv_Mem, g_27 = jv_up gj_27 126 29 y0_27 → ((jv_r (g_27 126 29)) ∧ ((g_27 126 29) ≤ 0 → (((0 : Int) ≤ g_27 126 11 ∧ g_27 126 11 < (60 : Int)) ∧ (∀ g_48 : jv_Mem, g_48 = jv_up g_27 134 (g_27 126 11) a1 → (∀ g_56 : jv_Mem, g_56 = jv_up g_48 126 11 ((g_48 126 11) + 1) → Q ((g_56 126 11) - 1) g_56)))) ∧ (0 < (g_27 126 29) → Q 0 g_27)))
def wp_X9_clue (a1 : Int) (Q : Int → jv_Mem → Prop) (g : jv_Mem) : Prop :=
  (wp_X9_isWord a1 (fun (r_3 : Int) (g_3 : jv_Mem) => ((jv_r r_3) ∧ (¬ r_3 = 0 → ((jv_r (g_3 126 11)) ∧ (¬ (g_3 126 11) = 60 → wB_X9_clue_27 a1 Q 0 g_3) ∧ ((g_3 126 11) = 60 → wB_X9_clue_27 a1 Q 2 g_3))) ∧ (r_3 = 0 → wB_X9_clue_27 a1 Q 1 g_3))) g)
set_option maxHeartbeats 4000000 in
set_option maxRecDepth 100000 in
theorem M_X9_clue {l : Launch} {s0 : State} {b0 : Addr} {D : va_G} {ids : Nat → ClassId} {ex : Option Nat} {g : jv_Mem} {a1 : Int} {Q : Int → jv_Mem → Prop} (h : wp_X9_clue a1 Q g) : jv_M l s0 b0 D ids yX9_clue cX9_clue 2 (some .int) 2 43 0 0 ex jv_SH g [.ref (s0.heap.size + (126 : Int).toNat), jv_i a1] ex jv_SH (jv_qi Q) := by
  refine jv_M.of (by decide +kernel) rfl rfl (fun p e s m args below meth c C hml hr hlk hnm => ?_)
  replace C : jv_C p s m args c cX9_clue RX9 s0 b0 D ids := C
  show jv_V p l e (jv_rm 2 43 0 0) s m args below meth c 0 0 (jv_ZM below s0 D ids ex jv_SH (jv_qi Q) args s 0 0) s0 D ids ex jv_SH g 0 [some (.ref (s0.heap.size + (126 : Int).toNat)), some (jv_i a1)] []
  unfold wp_X9_clue at h
  refine jv_aload_n C dX9_clue_0 rfl ?_
  refine jv_aload_n C dX9_clue_1 rfl ?_
  refine jv_iload_n C dX9_clue_2 rfl ?_
  refine jv_callVi C (M_X9_isWord h) kw_X9_101 sS_126 rfl rfl ⟨rfl, rfl⟩ (st := [.ref (s0.heap.size + (126 : Int).toNat)]) rfl rfl ⟨rfl, rfl⟩ dX9_clue_3 (fun r_3 g_3 h => ?_)
  have hJ27 : ∀ (y0_27 : Int) (gj_27 : jv_Mem), wB_X9_clue_27 a1 Q y0_27 gj_27 → jv_V p l e (jv_rm 2 43 0 0) s m args below meth c 0 0 (jv_ZM below s0 D ids ex jv_SH (jv_qi Q) args s 0 0) s0 D ids ex jv_SH gj_27 27 [some (.ref (s0.heap.size + (126 : Int).toNat)), some (jv_i a1)] [jv_i y0_27, .ref (s0.heap.size + (126 : Int).toNat)] := by
    intro y0_27 gj_27 h
    unfold wB_X9_clue_27 at h
    refine jv_puti C kf_X9_73 sS_126 rfl dX9_clue_27 (jv_gm (fun g_27 eg_27 => ?_))
    replace h := h g_27 eg_27
    refine jv_aload_n C dX9_clue_30 rfl ?_
    refine jv_geti C kf_X9_73 sS_126 rfl dX9_clue_31 ?_
    obtain ⟨hr_34, h1_34, h2_34⟩ := h
    refine jv_if_le (tgt := 39) C hr_34 dX9_clue_34 rfl (fun hc_34 => ?_) (fun hc_34 => ?_)
    · replace h := h1_34 hc_34
      refine jv_aload_n C dX9_clue_39 rfl ?_
      refine jv_getr C kf_X9_31 sS_126 rfl dX9_clue_40 ?_
      refine jv_aload_n C dX9_clue_43 rfl ?_
      refine jv_geti C kf_X9_135 sS_126 rfl dX9_clue_44 ?_
      refine jv_iload_n C dX9_clue_47 rfl ?_
      obtain ⟨hb_48, h⟩ := h
      refine jv_iast C sS_134 rfl hb_48 dX9_clue_48 (jv_gm (fun g_48 eg_48 => ?_))
      replace h := h g_48 eg_48
      refine jv_aload_n C dX9_clue_49 rfl ?_
      refine jv_dup C rfl dX9_clue_50 ?_
      refine jv_geti C kf_X9_135 sS_126 rfl dX9_clue_51 ?_
      refine jv_const C dX9_clue_54 ?_
      refine jv_iadd C dX9_clue_55 ?_
      refine jv_puti C kf_X9_135 sS_126 rfl dX9_clue_56 (jv_gm (fun g_56 eg_56 => ?_))
      replace h := h g_56 eg_56
      refine jv_aload_n C dX9_clue_59 rfl ?_
      refine jv_geti C kf_X9_135 sS_126 rfl dX9_clue_60 ?_
      refine jv_const C dX9_clue_63 ?_
      refine jv_isub C dX9_clue_64 ?_
      exact jv_iret C hr hlk ⟨_, rfl, h⟩ dX9_clue_65 ⟨rfl, rfl⟩
    · replace h := h2_34 hc_34
      refine jv_const C dX9_clue_37 ?_
      exact jv_iret C hr hlk ⟨_, rfl, h⟩ dX9_clue_38 ⟨rfl, rfl⟩
  obtain ⟨hr_6, h1_6, h2_6⟩ := h
  refine jv_if_ne (tgt := 13) C hr_6 dX9_clue_6 rfl (fun hc_6 => ?_) (fun hc_6 => ?_)
  · replace h := h1_6 hc_6
    refine jv_aload_n C dX9_clue_13 rfl ?_
    refine jv_geti C kf_X9_135 sS_126 rfl dX9_clue_14 ?_
    refine jv_bipush C dX9_clue_17 (by decide +kernel) ?_
    obtain ⟨hr_19, h1_19, h2_19⟩ := h
    refine jv_icmp_ne (tgt := 26) C hr_19 ⟨by decide, by decide⟩ dX9_clue_19 rfl (fun hc_19 => ?_) (fun hc_19 => ?_)
    · replace h := h1_19 hc_19
      refine jv_const C dX9_clue_26 ?_
      exact jv_less (ls' := [some (.ref (s0.heap.size + (126 : Int).toNat)), some (jv_i a1)]) ⟨rfl, ⟨rfl, trivial⟩⟩ (hJ27 _ _ h)
    · replace h := h2_19 hc_19
      refine jv_const C dX9_clue_22 ?_
      refine jv_goto (tgt := 27) C dX9_clue_23 rfl ?_
      exact jv_less (ls' := [some (.ref (s0.heap.size + (126 : Int).toNat)), some (jv_i a1)]) ⟨rfl, ⟨rfl, trivial⟩⟩ (hJ27 _ _ h)
  · replace h := h2_6 hc_6
    refine jv_const C dX9_clue_9 ?_
    refine jv_goto (tgt := 27) C dX9_clue_10 rfl ?_
    exact jv_less (ls' := [some (.ref (s0.heap.size + (126 : Int).toNat)), some (jv_i a1)]) ⟨rfl, ⟨rfl, trivial⟩⟩ (hJ27 _ _ h)

def wB_X9_edit_61 (a1 : Int) (Q : Int → jv_Mem → Prop) (y0_61 : Int) (gj_61 : jv_Mem) : Prop :=
  (((0 : Int) ≤ a1 ∧ a1 < (60 : Int)) ∧ (∀ g_61 : jv_Mem, g_61 = jv_up gj_61 135 a1 y0_61 → (((0 : Int) ≤ a1 ∧ a1 < (60 : Int)) ∧ Q (g_61 135 a1) g_61)))
def wB_X9_edit_28 (a1 : Int) (a2 : Int) (Q : Int → jv_Mem → Prop) (y0_28 : Int) (gj_28 : jv_Mem) : Prop :=
  (∀ g_28 : jv_Mem, g_28 = jv_up gj_28 126 29 y0_28 → ((jv_r (g_28 126 29)) ∧ ((g_28 126 29) ≤ 0 → ((jv_r a2) ∧ (a2 = 0 → wB_X9_edit_61 a1 Q 0 g_28) ∧ (¬ a2 = 0 → (((0 : Int) ≤ a1 ∧ a1 < (60 : Int)) ∧ wB_X9_edit_61 a1 Q ((g_28 135 a1) + 1) g_28)))) ∧ (0 < (g_28 126 29) → Q 0 g_28)))
def wp_X9_edit (a1 : Int) (a2 : Int) (Q : Int → jv_Mem → Prop) (g : jv_Mem) : Prop :=
  (wp_X9_isClue a1 (fun (r_3 : Int) (g_3 : jv_Mem) => ((jv_r r_3) ∧ (¬ r_3 = 0 → (((0 : Int) ≤ a1 ∧ a1 < (60 : Int)) ∧ ((jv_r (g_3 135 a1)) ∧ (¬ (g_3 135 a1) = 2 → wB_X9_edit_28 a1 a2 Q 0 g_3) ∧ ((g_3 135 a1) = 2 → wB_X9_edit_28 a1 a2 Q 2 g_3)))) ∧ (r_3 = 0 → wB_X9_edit_28 a1 a2 Q 1 g_3))) g)
set_option maxHeartbeats 4000000 in
set_option maxRecDepth 100000 in
theorem M_X9_edit {l : Launch} {s0 : State} {b0 : Addr} {D : va_G} {ids : Nat → ClassId} {ex : Option Nat} {g : jv_Mem} {a1 : Int} {a2 : Int} {Q : Int → jv_Mem → Prop} (h : wp_X9_edit a1 a2 Q g) : jv_M l s0 b0 D ids yX9_edit cX9_edit 3 (some .int) 2 43 0 0 ex jv_SH g [.ref (s0.heap.size + (126 : Int).toNat), jv_i a1, jv_i a2] ex jv_SH (jv_qi Q) := by
  refine jv_M.of (by decide +kernel) rfl rfl (fun p e s m args below meth c C hml hr hlk hnm => ?_)
  replace C : jv_C p s m args c cX9_edit RX9 s0 b0 D ids := C
  show jv_V p l e (jv_rm 2 43 0 0) s m args below meth c 0 0 (jv_ZM below s0 D ids ex jv_SH (jv_qi Q) args s 0 0) s0 D ids ex jv_SH g 0 [some (.ref (s0.heap.size + (126 : Int).toNat)), some (jv_i a1), some (jv_i a2)] []
  unfold wp_X9_edit at h
  refine jv_aload_n C dX9_edit_0 rfl ?_
  refine jv_aload_n C dX9_edit_1 rfl ?_
  refine jv_iload_n C dX9_edit_2 rfl ?_
  refine jv_callVi C (M_X9_isClue h) kw_X9_138 sS_126 rfl rfl ⟨rfl, rfl⟩ (st := [.ref (s0.heap.size + (126 : Int).toNat)]) rfl rfl ⟨rfl, rfl⟩ dX9_edit_3 (fun r_3 g_3 h => ?_)
  have hJ28 : ∀ (y0_28 : Int) (gj_28 : jv_Mem), wB_X9_edit_28 a1 a2 Q y0_28 gj_28 → jv_V p l e (jv_rm 2 43 0 0) s m args below meth c 0 0 (jv_ZM below s0 D ids ex jv_SH (jv_qi Q) args s 0 0) s0 D ids ex jv_SH gj_28 28 [some (.ref (s0.heap.size + (126 : Int).toNat)), some (jv_i a1), some (jv_i a2)] [jv_i y0_28, .ref (s0.heap.size + (126 : Int).toNat)] := by
    intro y0_28 gj_28 h
    unfold wB_X9_edit_28 at h
    refine jv_puti C kf_X9_73 sS_126 rfl dX9_edit_28 (jv_gm (fun g_28 eg_28 => ?_))
    replace h := h g_28 eg_28
    refine jv_aload_n C dX9_edit_31 rfl ?_
    refine jv_geti C kf_X9_73 sS_126 rfl dX9_edit_32 ?_
    obtain ⟨hr_35, h1_35, h2_35⟩ := h
    refine jv_if_le (tgt := 40) C hr_35 dX9_edit_35 rfl (fun hc_35 => ?_) (fun hc_35 => ?_)
    · replace h := h1_35 hc_35
      refine jv_aload_n C dX9_edit_40 rfl ?_
      refine jv_getr C kf_X9_34 sS_126 rfl dX9_edit_41 ?_
      refine jv_iload_n C dX9_edit_44 rfl ?_
      refine jv_iload_n C dX9_edit_45 rfl ?_
      have hJ61 : ∀ (y0_61 : Int) (gj_61 : jv_Mem), wB_X9_edit_61 a1 Q y0_61 gj_61 → jv_V p l e (jv_rm 2 43 0 0) s m args below meth c 0 0 (jv_ZM below s0 D ids ex jv_SH (jv_qi Q) args s 0 0) s0 D ids ex jv_SH gj_61 61 [some (.ref (s0.heap.size + (126 : Int).toNat)), some (jv_i a1), none] [jv_i y0_61, jv_i a1, .ref (s0.heap.size + (135 : Int).toNat)] := by
        intro y0_61 gj_61 h
        unfold wB_X9_edit_61 at h
        obtain ⟨hb_61, h⟩ := h
        refine jv_iast C sS_135 rfl hb_61 dX9_edit_61 (jv_gm (fun g_61 eg_61 => ?_))
        replace h := h g_61 eg_61
        refine jv_aload_n C dX9_edit_62 rfl ?_
        refine jv_getr C kf_X9_34 sS_126 rfl dX9_edit_63 ?_
        refine jv_iload_n C dX9_edit_66 rfl ?_
        obtain ⟨hb_67, h⟩ := h
        refine jv_iald C sS_135 rfl hb_67 dX9_edit_67 ?_
        exact jv_iret C hr hlk ⟨_, rfl, h⟩ dX9_edit_68 ⟨rfl, rfl⟩
      obtain ⟨hr_46, h1_46, h2_46⟩ := h
      refine jv_if_eq (tgt := 60) C hr_46 dX9_edit_46 rfl (fun hc_46 => ?_) (fun hc_46 => ?_)
      · replace h := h1_46 hc_46
        refine jv_const C dX9_edit_60 ?_
        exact jv_less (ls' := [some (.ref (s0.heap.size + (126 : Int).toNat)), some (jv_i a1), none]) ⟨rfl, ⟨rfl, trivial⟩⟩ (hJ61 _ _ h)
      · replace h := h2_46 hc_46
        refine jv_aload_n C dX9_edit_49 rfl ?_
        refine jv_getr C kf_X9_34 sS_126 rfl dX9_edit_50 ?_
        refine jv_iload_n C dX9_edit_53 rfl ?_
        obtain ⟨hb_54, h⟩ := h
        refine jv_iald C sS_135 rfl hb_54 dX9_edit_54 ?_
        refine jv_const C dX9_edit_55 ?_
        refine jv_iadd C dX9_edit_56 ?_
        refine jv_goto (tgt := 61) C dX9_edit_57 rfl ?_
        exact jv_less (ls' := [some (.ref (s0.heap.size + (126 : Int).toNat)), some (jv_i a1), none]) ⟨rfl, ⟨rfl, trivial⟩⟩ (hJ61 _ _ h)
    · replace h := h2_35 hc_35
      refine jv_const C dX9_edit_38 ?_
      exact jv_iret C hr hlk ⟨_, rfl, h⟩ dX9_edit_39 ⟨rfl, rfl⟩
  obtain ⟨hr_6, h1_6, h2_6⟩ := h
  refine jv_if_ne (tgt := 13) C hr_6 dX9_edit_6 rfl (fun hc_6 => ?_) (fun hc_6 => ?_)
  · replace h := h1_6 hc_6
    refine jv_aload_n C dX9_edit_13 rfl ?_
    refine jv_getr C kf_X9_34 sS_126 rfl dX9_edit_14 ?_
    refine jv_iload_n C dX9_edit_17 rfl ?_
    obtain ⟨hb_18, h⟩ := h
    refine jv_iald C sS_135 rfl hb_18 dX9_edit_18 ?_
    refine jv_const C dX9_edit_19 ?_
    obtain ⟨hr_20, h1_20, h2_20⟩ := h
    refine jv_icmp_ne (tgt := 27) C hr_20 ⟨by decide, by decide⟩ dX9_edit_20 rfl (fun hc_20 => ?_) (fun hc_20 => ?_)
    · replace h := h1_20 hc_20
      refine jv_const C dX9_edit_27 ?_
      exact jv_less (ls' := [some (.ref (s0.heap.size + (126 : Int).toNat)), some (jv_i a1), some (jv_i a2)]) ⟨rfl, ⟨rfl, ⟨rfl, trivial⟩⟩⟩ (hJ28 _ _ h)
    · replace h := h2_20 hc_20
      refine jv_const C dX9_edit_23 ?_
      refine jv_goto (tgt := 28) C dX9_edit_24 rfl ?_
      exact jv_less (ls' := [some (.ref (s0.heap.size + (126 : Int).toNat)), some (jv_i a1), some (jv_i a2)]) ⟨rfl, ⟨rfl, ⟨rfl, trivial⟩⟩⟩ (hJ28 _ _ h)
  · replace h := h2_6 hc_6
    refine jv_const C dX9_edit_9 ?_
    refine jv_goto (tgt := 28) C dX9_edit_10 rfl ?_
    exact jv_less (ls' := [some (.ref (s0.heap.size + (126 : Int).toNat)), some (jv_i a1), some (jv_i a2)]) ⟨rfl, ⟨rfl, ⟨rfl, trivial⟩⟩⟩ (hJ28 _ _ h)

def wB_X9_lastUsed_14 (a1 : Int) (Q : Int → jv_Mem → Prop) (y0_14 : Int) (gj_14 : jv_Mem) : Prop :=
  (∀ g_14 : jv_Mem, g_14 = jv_up gj_14 126 29 y0_14 → ((jv_r (g_14 126 29)) ∧ (¬ (g_14 126 29) = 0 → Q 0 g_14) ∧ ((g_14 126 29) = 0 → (((0 : Int) ≤ a1 ∧ a1 < (60 : Int)) ∧ Q ((g_14 136 a1) - 1) g_14))))
def wp_X9_lastUsed (a1 : Int) (Q : Int → jv_Mem → Prop) (g : jv_Mem) : Prop :=
  (wp_X9_isClue a1 (fun (r_3 : Int) (g_3 : jv_Mem) => ((jv_r r_3) ∧ (r_3 = 0 → wB_X9_lastUsed_14 a1 Q 1 g_3) ∧ (¬ r_3 = 0 → wB_X9_lastUsed_14 a1 Q 0 g_3))) g)
set_option maxHeartbeats 4000000 in
set_option maxRecDepth 100000 in
theorem M_X9_lastUsed {l : Launch} {s0 : State} {b0 : Addr} {D : va_G} {ids : Nat → ClassId} {ex : Option Nat} {g : jv_Mem} {a1 : Int} {Q : Int → jv_Mem → Prop} (h : wp_X9_lastUsed a1 Q g) : jv_M l s0 b0 D ids yX9_lastUsed cX9_lastUsed 2 (some .int) 2 43 0 0 ex jv_SH g [.ref (s0.heap.size + (126 : Int).toNat), jv_i a1] ex jv_SH (jv_qi Q) := by
  refine jv_M.of (by decide +kernel) rfl rfl (fun p e s m args below meth c C hml hr hlk hnm => ?_)
  replace C : jv_C p s m args c cX9_lastUsed RX9 s0 b0 D ids := C
  show jv_V p l e (jv_rm 2 43 0 0) s m args below meth c 0 0 (jv_ZM below s0 D ids ex jv_SH (jv_qi Q) args s 0 0) s0 D ids ex jv_SH g 0 [some (.ref (s0.heap.size + (126 : Int).toNat)), some (jv_i a1)] []
  unfold wp_X9_lastUsed at h
  refine jv_aload_n C dX9_lastUsed_0 rfl ?_
  refine jv_aload_n C dX9_lastUsed_1 rfl ?_
  refine jv_iload_n C dX9_lastUsed_2 rfl ?_
  refine jv_callVi C (M_X9_isClue h) kw_X9_138 sS_126 rfl rfl ⟨rfl, rfl⟩ (st := [.ref (s0.heap.size + (126 : Int).toNat)]) rfl rfl ⟨rfl, rfl⟩ dX9_lastUsed_3 (fun r_3 g_3 h => ?_)
  have hJ14 : ∀ (y0_14 : Int) (gj_14 : jv_Mem), wB_X9_lastUsed_14 a1 Q y0_14 gj_14 → jv_V p l e (jv_rm 2 43 0 0) s m args below meth c 0 0 (jv_ZM below s0 D ids ex jv_SH (jv_qi Q) args s 0 0) s0 D ids ex jv_SH gj_14 14 [some (.ref (s0.heap.size + (126 : Int).toNat)), some (jv_i a1)] [jv_i y0_14, .ref (s0.heap.size + (126 : Int).toNat)] := by
    intro y0_14 gj_14 h
    unfold wB_X9_lastUsed_14 at h
    refine jv_puti C kf_X9_73 sS_126 rfl dX9_lastUsed_14 (jv_gm (fun g_14 eg_14 => ?_))
    replace h := h g_14 eg_14
    refine jv_aload_n C dX9_lastUsed_17 rfl ?_
    refine jv_geti C kf_X9_73 sS_126 rfl dX9_lastUsed_18 ?_
    obtain ⟨hr_21, h1_21, h2_21⟩ := h
    refine jv_if_ne (tgt := 35) C hr_21 dX9_lastUsed_21 rfl (fun hc_21 => ?_) (fun hc_21 => ?_)
    · replace h := h1_21 hc_21
      refine jv_const C dX9_lastUsed_35 ?_
      exact jv_iret C hr hlk ⟨_, rfl, h⟩ dX9_lastUsed_36 ⟨rfl, rfl⟩
    · replace h := h2_21 hc_21
      refine jv_aload_n C dX9_lastUsed_24 rfl ?_
      refine jv_getr C kf_X9_37 sS_126 rfl dX9_lastUsed_25 ?_
      refine jv_iload_n C dX9_lastUsed_28 rfl ?_
      obtain ⟨hb_29, h⟩ := h
      refine jv_iald C sS_136 rfl hb_29 dX9_lastUsed_29 ?_
      refine jv_const C dX9_lastUsed_30 ?_
      refine jv_isub C dX9_lastUsed_31 ?_
      refine jv_goto (tgt := 36) C dX9_lastUsed_32 rfl ?_
      exact jv_iret C hr hlk ⟨_, rfl, h⟩ dX9_lastUsed_36 ⟨rfl, rfl⟩
  obtain ⟨hr_6, h1_6, h2_6⟩ := h
  refine jv_if_eq (tgt := 13) C hr_6 dX9_lastUsed_6 rfl (fun hc_6 => ?_) (fun hc_6 => ?_)
  · replace h := h1_6 hc_6
    refine jv_const C dX9_lastUsed_13 ?_
    exact jv_less (ls' := [some (.ref (s0.heap.size + (126 : Int).toNat)), some (jv_i a1)]) ⟨rfl, ⟨rfl, trivial⟩⟩ (hJ14 _ _ h)
  · replace h := h2_6 hc_6
    refine jv_const C dX9_lastUsed_9 ?_
    refine jv_goto (tgt := 14) C dX9_lastUsed_10 rfl ?_
    exact jv_less (ls' := [some (.ref (s0.heap.size + (126 : Int).toNat)), some (jv_i a1)]) ⟨rfl, ⟨rfl, trivial⟩⟩ (hJ14 _ _ h)

def wB_X9_pass_53 (Q : Int → jv_Mem → Prop) (g_33 : jv_Mem) (y0_53 : Int) (gj_53 : jv_Mem) : Prop :=
  (∀ g_54 : jv_Mem, g_54 = jv_up gj_53 126 15 ((g_33 126 15) + y0_53) → ((jv_r (g_54 126 29)) ∧ (¬ (g_54 126 29) = 0 → Q 0 g_54) ∧ ((g_54 126 29) = 0 → Q (g_54 126 15) g_54)))
def wB_X9_pass_33 (a1 : Int) (Q : Int → jv_Mem → Prop) (y0_33 : Int) (gj_33 : jv_Mem) : Prop :=
  (∀ g_33 : jv_Mem, g_33 = jv_up gj_33 126 29 y0_33 → ((jv_r (g_33 126 29)) ∧ (¬ (g_33 126 29) = 0 → wB_X9_pass_53 Q g_33 0 g_33) ∧ ((g_33 126 29) = 0 → wB_X9_pass_53 Q g_33 a1 g_33)))
def wp_X9_pass (a1 : Int) (Q : Int → jv_Mem → Prop) (g : jv_Mem) : Prop :=
  (wp_X9_in a1 1 2000 (fun (r_6 : Int) (g_6 : jv_Mem) => ((jv_r r_6) ∧ (¬ r_6 = 0 → ((jv_r ((g_6 126 15) + a1)) ∧ (((g_6 126 15) + a1) ≤ 30000 → wB_X9_pass_33 a1 Q 0 g_6) ∧ (30000 < ((g_6 126 15) + a1) → wB_X9_pass_33 a1 Q 2 g_6))) ∧ (r_6 = 0 → wB_X9_pass_33 a1 Q 1 g_6))) g)
set_option maxHeartbeats 4000000 in
set_option maxRecDepth 100000 in
theorem M_X9_pass {l : Launch} {s0 : State} {b0 : Addr} {D : va_G} {ids : Nat → ClassId} {ex : Option Nat} {g : jv_Mem} {a1 : Int} {Q : Int → jv_Mem → Prop} (h : wp_X9_pass a1 Q g) : jv_M l s0 b0 D ids yX9_pass cX9_pass 2 (some .int) 1 22 0 0 ex jv_SH g [.ref (s0.heap.size + (126 : Int).toNat), jv_i a1] ex jv_SH (jv_qi Q) := by
  refine jv_M.of (by decide +kernel) rfl rfl (fun p e s m args below meth c C hml hr hlk hnm => ?_)
  replace C : jv_C p s m args c cX9_pass RX9 s0 b0 D ids := C
  show jv_V p l e (jv_rm 1 22 0 0) s m args below meth c 0 0 (jv_ZM below s0 D ids ex jv_SH (jv_qi Q) args s 0 0) s0 D ids ex jv_SH g 0 [some (.ref (s0.heap.size + (126 : Int).toNat)), some (jv_i a1)] []
  unfold wp_X9_pass at h
  refine jv_aload_n C dX9_pass_0 rfl ?_
  refine jv_iload_n C dX9_pass_1 rfl ?_
  refine jv_const C dX9_pass_2 ?_
  refine jv_sipush C dX9_pass_3 (by decide +kernel) ?_
  refine jv_callSi C (M_X9_in h) kw_X9_80 rfl ⟨rfl, rfl⟩ (st := [.ref (s0.heap.size + (126 : Int).toNat)]) rfl rfl ⟨rfl, rfl⟩ dX9_pass_6 (fun r_6 g_6 h => ?_)
  have hJ33 : ∀ (y0_33 : Int) (gj_33 : jv_Mem), wB_X9_pass_33 a1 Q y0_33 gj_33 → jv_V p l e (jv_rm 1 22 0 0) s m args below meth c 0 0 (jv_ZM below s0 D ids ex jv_SH (jv_qi Q) args s 0 0) s0 D ids ex jv_SH gj_33 33 [some (.ref (s0.heap.size + (126 : Int).toNat)), some (jv_i a1)] [jv_i y0_33, .ref (s0.heap.size + (126 : Int).toNat)] := by
    intro y0_33 gj_33 h
    unfold wB_X9_pass_33 at h
    refine jv_puti C kf_X9_73 sS_126 rfl dX9_pass_33 (jv_gm (fun g_33 eg_33 => ?_))
    replace h := h g_33 eg_33
    refine jv_aload_n C dX9_pass_36 rfl ?_
    refine jv_dup C rfl dX9_pass_37 ?_
    refine jv_geti C kf_X9_141 sS_126 rfl dX9_pass_38 ?_
    refine jv_aload_n C dX9_pass_41 rfl ?_
    refine jv_geti C kf_X9_73 sS_126 rfl dX9_pass_42 ?_
    have hJ53 : ∀ (y0_53 : Int) (gj_53 : jv_Mem), wB_X9_pass_53 Q g_33 y0_53 gj_53 → jv_V p l e (jv_rm 1 22 0 0) s m args below meth c 0 0 (jv_ZM below s0 D ids ex jv_SH (jv_qi Q) args s 0 0) s0 D ids ex jv_SH gj_53 53 [some (.ref (s0.heap.size + (126 : Int).toNat)), none] [jv_i y0_53, jv_i (g_33 126 15), .ref (s0.heap.size + (126 : Int).toNat)] := by
      intro y0_53 gj_53 h
      unfold wB_X9_pass_53 at h
      refine jv_iadd C dX9_pass_53 ?_
      refine jv_puti C kf_X9_141 sS_126 rfl dX9_pass_54 (jv_gm (fun g_54 eg_54 => ?_))
      replace h := h g_54 eg_54
      refine jv_aload_n C dX9_pass_57 rfl ?_
      refine jv_geti C kf_X9_73 sS_126 rfl dX9_pass_58 ?_
      obtain ⟨hr_61, h1_61, h2_61⟩ := h
      refine jv_if_ne (tgt := 71) C hr_61 dX9_pass_61 rfl (fun hc_61 => ?_) (fun hc_61 => ?_)
      · replace h := h1_61 hc_61
        refine jv_const C dX9_pass_71 ?_
        exact jv_iret C hr hlk ⟨_, rfl, h⟩ dX9_pass_72 ⟨rfl, rfl⟩
      · replace h := h2_61 hc_61
        refine jv_aload_n C dX9_pass_64 rfl ?_
        refine jv_geti C kf_X9_141 sS_126 rfl dX9_pass_65 ?_
        refine jv_goto (tgt := 72) C dX9_pass_68 rfl ?_
        exact jv_iret C hr hlk ⟨_, rfl, h⟩ dX9_pass_72 ⟨rfl, rfl⟩
    obtain ⟨hr_45, h1_45, h2_45⟩ := h
    refine jv_if_ne (tgt := 52) C hr_45 dX9_pass_45 rfl (fun hc_45 => ?_) (fun hc_45 => ?_)
    · replace h := h1_45 hc_45
      refine jv_const C dX9_pass_52 ?_
      exact jv_less (ls' := [some (.ref (s0.heap.size + (126 : Int).toNat)), none]) ⟨rfl, trivial⟩ (hJ53 _ _ h)
    · replace h := h2_45 hc_45
      refine jv_iload_n C dX9_pass_48 rfl ?_
      refine jv_goto (tgt := 53) C dX9_pass_49 rfl ?_
      exact jv_less (ls' := [some (.ref (s0.heap.size + (126 : Int).toNat)), none]) ⟨rfl, trivial⟩ (hJ53 _ _ h)
  obtain ⟨hr_9, h1_9, h2_9⟩ := h
  refine jv_if_ne (tgt := 16) C hr_9 dX9_pass_9 rfl (fun hc_9 => ?_) (fun hc_9 => ?_)
  · replace h := h1_9 hc_9
    refine jv_aload_n C dX9_pass_16 rfl ?_
    refine jv_geti C kf_X9_141 sS_126 rfl dX9_pass_17 ?_
    refine jv_iload_n C dX9_pass_20 rfl ?_
    refine jv_iadd C dX9_pass_21 ?_
    refine jv_sipush C dX9_pass_22 (by decide +kernel) ?_
    obtain ⟨hr_25, h1_25, h2_25⟩ := h
    refine jv_icmp_le (tgt := 32) C hr_25 ⟨by decide, by decide⟩ dX9_pass_25 rfl (fun hc_25 => ?_) (fun hc_25 => ?_)
    · replace h := h1_25 hc_25
      refine jv_const C dX9_pass_32 ?_
      exact jv_less (ls' := [some (.ref (s0.heap.size + (126 : Int).toNat)), some (jv_i a1)]) ⟨rfl, ⟨rfl, trivial⟩⟩ (hJ33 _ _ h)
    · replace h := h2_25 hc_25
      refine jv_const C dX9_pass_28 ?_
      refine jv_goto (tgt := 33) C dX9_pass_29 rfl ?_
      exact jv_less (ls' := [some (.ref (s0.heap.size + (126 : Int).toNat)), some (jv_i a1)]) ⟨rfl, ⟨rfl, trivial⟩⟩ (hJ33 _ _ h)
  · replace h := h2_9 hc_9
    refine jv_const C dX9_pass_12 ?_
    refine jv_goto (tgt := 33) C dX9_pass_13 rfl ?_
    exact jv_less (ls' := [some (.ref (s0.heap.size + (126 : Int).toNat)), some (jv_i a1)]) ⟨rfl, ⟨rfl, trivial⟩⟩ (hJ33 _ _ h)

def wp_X9_now (Q : Int → jv_Mem → Prop) (g : jv_Mem) : Prop :=
  (∀ g_2 : jv_Mem, g_2 = jv_up g 126 29 0 → Q (g_2 126 15) g_2)
set_option maxHeartbeats 4000000 in
set_option maxRecDepth 100000 in
theorem M_X9_now {l : Launch} {s0 : State} {b0 : Addr} {D : va_G} {ids : Nat → ClassId} {ex : Option Nat} {g : jv_Mem} {Q : Int → jv_Mem → Prop} (h : wp_X9_now Q g) : jv_M l s0 b0 D ids yX9_now cX9_now 1 (some .int) 0 0 0 0 ex jv_SH g [.ref (s0.heap.size + (126 : Int).toNat)] ex jv_SH (jv_qi Q) := by
  refine jv_M.of (by decide +kernel) rfl rfl (fun p e s m args below meth c C hml hr hlk hnm => ?_)
  replace C : jv_C p s m args c cX9_now RX9 s0 b0 D ids := C
  show jv_V p l e (jv_rm 0 0 0 0) s m args below meth c 0 0 (jv_ZM below s0 D ids ex jv_SH (jv_qi Q) args s 0 0) s0 D ids ex jv_SH g 0 [some (.ref (s0.heap.size + (126 : Int).toNat))] []
  unfold wp_X9_now at h
  refine jv_aload_n C dX9_now_0 rfl ?_
  refine jv_const C dX9_now_1 ?_
  refine jv_puti C kf_X9_73 sS_126 rfl dX9_now_2 (jv_gm (fun g_2 eg_2 => ?_))
  replace h := h g_2 eg_2
  refine jv_aload_n C dX9_now_5 rfl ?_
  refine jv_geti C kf_X9_141 sS_126 rfl dX9_now_6 ?_
  exact jv_iret C hr hlk ⟨_, rfl, h⟩ dX9_now_9 ⟨rfl, rfl⟩

def wB_X9_clueFor_147 (K5 : Int → Int → jv_Mem → Prop) (x4_5 : Int) (y0_147 : Int) (gj_147 : jv_Mem) : Prop :=
  (∀ v4_148 : Int, v4_148 = x4_5 + 1 → K5 y0_147 v4_148 gj_147)
def wB_X9_clueFor_146 (K5 : Int → Int → jv_Mem → Prop) (x3_5 : Int) (x4_5 : Int) (gj_146 : jv_Mem) : Prop :=
  wB_X9_clueFor_147 K5 x4_5 x3_5 gj_146
def wB_X9_clueFor_141 (K5 : Int → Int → jv_Mem → Prop) (x4_5 : Int) (gj_141 : jv_Mem) : Prop :=
  wB_X9_clueFor_147 K5 x4_5 x4_5 gj_141
def wB_X9_clueFor_107 (K79 : Int → Int → jv_Mem → Prop) (x6_79 : Int) (y0_107 : Int) (gj_107 : jv_Mem) : Prop :=
  (∀ v6_109 : Int, v6_109 = x6_79 + 1 → K79 y0_107 v6_109 gj_107)
def wB_X9_clueFor_106 (K79 : Int → Int → jv_Mem → Prop) (x6_79 : Int) (gj_106 : jv_Mem) : Prop :=
  wB_X9_clueFor_107 K79 x6_79 0 gj_106
def wB_X9_clueFor_74 (a1 : Int) (K5 : Int → Int → jv_Mem → Prop) (x3_5 : Int) (x4_5 : Int) (y0_74 : Int) (gj_74 : jv_Mem) : Prop :=
  jv_lp2 (fun (K79 : Int → Int → jv_Mem → Prop) (x5_79 x6_79 : Int) (gl_79 : jv_Mem) => ((jv_r x6_79 ∧ jv_r a1) ∧ (a1 ≤ x6_79 → ((jv_r x5_79) ∧ (x5_79 = 0 → wB_X9_clueFor_146 K5 x3_5 x4_5 gl_79) ∧ (¬ x5_79 = 0 → ((jv_r x3_5) ∧ (x3_5 = ((-1)) → wB_X9_clueFor_141 K5 x4_5 gl_79) ∧ (¬ x3_5 = ((-1)) → (((0 : Int) ≤ x4_5 ∧ x4_5 < (60 : Int)) ∧ (((0 : Int) ≤ x3_5 ∧ x3_5 < (60 : Int)) ∧ ((jv_r (gl_79 136 x4_5) ∧ jv_r (gl_79 136 x3_5)) ∧ ((gl_79 136 x3_5) ≤ (gl_79 136 x4_5) → wB_X9_clueFor_146 K5 x3_5 x4_5 gl_79) ∧ ((gl_79 136 x4_5) < (gl_79 136 x3_5) → wB_X9_clueFor_141 K5 x4_5 gl_79))))))))) ∧ (x6_79 < a1 → ((jv_r x5_79) ∧ (x5_79 = 0 → wB_X9_clueFor_106 K79 x6_79 gl_79) ∧ (¬ x5_79 = 0 → (((0 : Int) ≤ x6_79 ∧ x6_79 < (6 : Int)) ∧ ((jv_r (gl_79 141 x6_79) ∧ jv_r x4_5) ∧ ((gl_79 141 x6_79) = x4_5 → wB_X9_clueFor_106 K79 x6_79 gl_79) ∧ (¬ (gl_79 141 x6_79) = x4_5 → wB_X9_clueFor_107 K79 x6_79 1 gl_79)))))))) y0_74 0 gj_74
def wB_X9_clueFor_73 (a1 : Int) (K5 : Int → Int → jv_Mem → Prop) (x3_5 : Int) (x4_5 : Int) (gj_73 : jv_Mem) : Prop :=
  wB_X9_clueFor_74 a1 K5 x3_5 x4_5 0 gj_73
def wB_X9_clueFor_69 (a1 : Int) (K5 : Int → Int → jv_Mem → Prop) (x3_5 : Int) (x4_5 : Int) (gj_69 : jv_Mem) : Prop :=
  wB_X9_clueFor_74 a1 K5 x3_5 x4_5 1 gj_69
def wp_X9_clueFor (a1 : Int) (a2 : Int) (Q : Int → jv_Mem → Prop) (g : jv_Mem) : Prop :=
  jv_lp2 (fun (K5 : Int → Int → jv_Mem → Prop) (x3_5 x4_5 : Int) (gl_5 : jv_Mem) => ((jv_r x4_5 ∧ jv_r (gl_5 126 11)) ∧ ((gl_5 126 11) ≤ x4_5 → Q x3_5 gl_5) ∧ (x4_5 < (gl_5 126 11) → (((0 : Int) ≤ x4_5 ∧ x4_5 < (60 : Int)) ∧ ((jv_r (gl_5 134 x4_5) ∧ jv_r a2) ∧ (¬ (gl_5 134 x4_5) = a2 → wB_X9_clueFor_73 a1 K5 x3_5 x4_5 gl_5) ∧ ((gl_5 134 x4_5) = a2 → (((0 : Int) ≤ x4_5 ∧ x4_5 < (60 : Int)) ∧ ((jv_r (gl_5 135 x4_5)) ∧ (¬ (gl_5 135 x4_5) = 2 → wB_X9_clueFor_73 a1 K5 x3_5 x4_5 gl_5) ∧ ((gl_5 135 x4_5) = 2 → (((0 : Int) ≤ x4_5 ∧ x4_5 < (60 : Int)) ∧ ((jv_r (gl_5 136 x4_5)) ∧ ((gl_5 136 x4_5) = 0 → wB_X9_clueFor_69 a1 K5 x3_5 x4_5 gl_5) ∧ (¬ (gl_5 136 x4_5) = 0 → (((0 : Int) ≤ x4_5 ∧ x4_5 < (60 : Int)) ∧ ((jv_r (((jv_div (gl_5 126 15) 24) - (gl_5 136 x4_5)) + 1)) ∧ ((((jv_div (gl_5 126 15) 24) - (gl_5 136 x4_5)) + 1) < 365 → wB_X9_clueFor_73 a1 K5 x3_5 x4_5 gl_5) ∧ (365 ≤ (((jv_div (gl_5 126 15) 24) - (gl_5 136 x4_5)) + 1) → wB_X9_clueFor_69 a1 K5 x3_5 x4_5 gl_5))))))))))))))) ((-1)) 0 g
set_option maxHeartbeats 4000000 in
set_option maxRecDepth 100000 in
theorem M_X9_clueFor {l : Launch} {s0 : State} {b0 : Addr} {D : va_G} {ids : Nat → ClassId} {ex : Option Nat} {g : jv_Mem} {a1 : Int} {a2 : Int} {Q : Int → jv_Mem → Prop} (h : wp_X9_clueFor a1 a2 Q g) : jv_M l s0 b0 D ids yX9_clueFor cX9_clueFor 7 (some .int) 0 0 0 0 ex jv_SH g [.ref (s0.heap.size + (126 : Int).toNat), jv_i a1, jv_i a2] ex jv_SH (jv_qi Q) := by
  refine jv_M.of (by decide +kernel) rfl rfl (fun p e s m args below meth c C hml hr hlk hnm => ?_)
  replace C : jv_C p s m args c cX9_clueFor RX9 s0 b0 D ids := C
  show jv_V p l e (jv_rm 0 0 0 0) s m args below meth c 0 0 (jv_ZM below s0 D ids ex jv_SH (jv_qi Q) args s 0 0) s0 D ids ex jv_SH g 0 [some (.ref (s0.heap.size + (126 : Int).toNat)), some (jv_i a1), some (jv_i a2), none, none, none, none] []
  unfold wp_X9_clueFor at h
  refine jv_const C dX9_clueFor_0 ?_
  refine jv_istore_n (ls' := [some (.ref (s0.heap.size + (126 : Int).toNat)), some (jv_i a1), some (jv_i a2), some (jv_i ((-1))), none, none, none]) C dX9_clueFor_1 (Nat.lt_of_lt_of_eq (Nat.le_of_ble_eq_true rfl) hml) rfl ?_
  refine jv_const C dX9_clueFor_2 ?_
  refine jv_istore (ls' := [some (.ref (s0.heap.size + (126 : Int).toNat)), some (jv_i a1), some (jv_i a2), some (jv_i ((-1))), some (jv_i 0), none, none]) C dX9_clueFor_3 (Nat.lt_of_lt_of_eq (Nat.le_of_ble_eq_true rfl) hml) rfl ?_
  refine jv_less (ls' := [some (.ref (s0.heap.size + (126 : Int).toNat)), some (jv_i a1), some (jv_i a2), some (jv_i ((-1))), some (jv_i 0), none, none]) ⟨rfl, ⟨rfl, ⟨rfl, ⟨rfl, ⟨rfl, trivial⟩⟩⟩⟩⟩ ?_
  refine jv_lp2.use h (fun (x3_5 x4_5 : Int) (gl_5 : jv_Mem) => jv_V p l e (jv_rm 0 0 0 0) s m args below meth c 0 0 (jv_ZM below s0 D ids ex jv_SH (jv_qi Q) args s 0 0) s0 D ids ex jv_SH gl_5 5 [some (.ref (s0.heap.size + (126 : Int).toNat)), some (jv_i a1), some (jv_i a2), some (jv_i x3_5), some (jv_i x4_5), none, none] []) ?_
  intro K5 hK5 x3_5 x4_5 gl_5 h
  refine jv_iload C dX9_clueFor_5 rfl ?_
  refine jv_aload_n C dX9_clueFor_7 rfl ?_
  refine jv_geti C kf_X9_135 sS_126 rfl dX9_clueFor_8 ?_
  obtain ⟨hr_11, h1_11, h2_11⟩ := h
  refine jv_icmp_ge (tgt := 154) C hr_11.1 hr_11.2 dX9_clueFor_11 rfl (fun hc_11 => ?_) (fun hc_11 => ?_)
  · replace h := h1_11 hc_11
    refine jv_iload_n C dX9_clueFor_154 rfl ?_
    exact jv_iret C hr hlk ⟨_, rfl, h⟩ dX9_clueFor_155 ⟨rfl, rfl⟩
  · replace h := h2_11 hc_11
    refine jv_aload_n C dX9_clueFor_14 rfl ?_
    refine jv_getr C kf_X9_31 sS_126 rfl dX9_clueFor_15 ?_
    refine jv_iload C dX9_clueFor_18 rfl ?_
    obtain ⟨hb_20, h⟩ := h
    refine jv_iald C sS_134 rfl hb_20 dX9_clueFor_20 ?_
    refine jv_iload_n C dX9_clueFor_21 rfl ?_
    have hJ74 : ∀ (y0_74 : Int) (gj_74 : jv_Mem), wB_X9_clueFor_74 a1 K5 x3_5 x4_5 y0_74 gj_74 → jv_V p l e (jv_rm 0 0 0 0) s m args below meth c 0 0 (jv_ZM below s0 D ids ex jv_SH (jv_qi Q) args s 0 0) s0 D ids ex jv_SH gj_74 74 [some (.ref (s0.heap.size + (126 : Int).toNat)), some (jv_i a1), some (jv_i a2), some (jv_i x3_5), some (jv_i x4_5), none, none] [jv_i y0_74] := by
      intro y0_74 gj_74 h
      unfold wB_X9_clueFor_74 at h
      refine jv_istore (ls' := [some (.ref (s0.heap.size + (126 : Int).toNat)), some (jv_i a1), some (jv_i a2), some (jv_i x3_5), some (jv_i x4_5), some (jv_i y0_74), none]) C dX9_clueFor_74 (Nat.lt_of_lt_of_eq (Nat.le_of_ble_eq_true rfl) hml) rfl ?_
      refine jv_const C dX9_clueFor_76 ?_
      refine jv_istore (ls' := [some (.ref (s0.heap.size + (126 : Int).toNat)), some (jv_i a1), some (jv_i a2), some (jv_i x3_5), some (jv_i x4_5), some (jv_i y0_74), some (jv_i 0)]) C dX9_clueFor_77 (Nat.lt_of_lt_of_eq (Nat.le_of_ble_eq_true rfl) hml) rfl ?_
      refine jv_less (ls' := [some (.ref (s0.heap.size + (126 : Int).toNat)), some (jv_i a1), some (jv_i a2), some (jv_i x3_5), some (jv_i x4_5), some (jv_i y0_74), some (jv_i 0)]) ⟨rfl, ⟨rfl, ⟨rfl, ⟨rfl, ⟨rfl, ⟨rfl, ⟨rfl, trivial⟩⟩⟩⟩⟩⟩⟩ ?_
      refine jv_lp2.use h (fun (x5_79 x6_79 : Int) (gl_79 : jv_Mem) => jv_V p l e (jv_rm 0 0 0 0) s m args below meth c 0 0 (jv_ZM below s0 D ids ex jv_SH (jv_qi Q) args s 0 0) s0 D ids ex jv_SH gl_79 79 [some (.ref (s0.heap.size + (126 : Int).toNat)), some (jv_i a1), some (jv_i a2), some (jv_i x3_5), some (jv_i x4_5), some (jv_i x5_79), some (jv_i x6_79)] []) ?_
      intro K79 hK79 x5_79 x6_79 gl_79 h
      refine jv_iload C dX9_clueFor_79 rfl ?_
      refine jv_iload_n C dX9_clueFor_81 rfl ?_
      obtain ⟨hr_82, h1_82, h2_82⟩ := h
      refine jv_icmp_ge (tgt := 115) C hr_82.1 hr_82.2 dX9_clueFor_82 rfl (fun hc_82 => ?_) (fun hc_82 => ?_)
      · replace h := h1_82 hc_82
        refine jv_iload C dX9_clueFor_115 rfl ?_
        have hJ147 : ∀ (y0_147 : Int) (gj_147 : jv_Mem), wB_X9_clueFor_147 K5 x4_5 y0_147 gj_147 → jv_V p l e (jv_rm 0 0 0 0) s m args below meth c 0 0 (jv_ZM below s0 D ids ex jv_SH (jv_qi Q) args s 0 0) s0 D ids ex jv_SH gj_147 147 [some (.ref (s0.heap.size + (126 : Int).toNat)), some (jv_i a1), some (jv_i a2), none, some (jv_i x4_5), none, none] [jv_i y0_147] := by
          intro y0_147 gj_147 h
          unfold wB_X9_clueFor_147 at h
          refine jv_istore_n (ls' := [some (.ref (s0.heap.size + (126 : Int).toNat)), some (jv_i a1), some (jv_i a2), some (jv_i y0_147), some (jv_i x4_5), none, none]) C dX9_clueFor_147 (Nat.lt_of_lt_of_eq (Nat.le_of_ble_eq_true rfl) hml) rfl ?_
          refine jv_iincn C dX9_clueFor_148 (Nat.lt_of_lt_of_eq (Nat.le_of_ble_eq_true rfl) hml) rfl (fun v4_148 ev4_148 => ?_)
          replace h := h v4_148 ev4_148
          refine jv_lset (ls' := [some (.ref (s0.heap.size + (126 : Int).toNat)), some (jv_i a1), some (jv_i a2), some (jv_i y0_147), some (jv_i v4_148), none, none]) rfl ?_
          refine jv_goto (tgt := 5) C dX9_clueFor_151 rfl ?_
          exact jv_less (ls' := [some (.ref (s0.heap.size + (126 : Int).toNat)), some (jv_i a1), some (jv_i a2), some (jv_i y0_147), some (jv_i v4_148), none, none]) ⟨rfl, ⟨rfl, ⟨rfl, ⟨rfl, ⟨rfl, trivial⟩⟩⟩⟩⟩ (hK5 _ _ _ h)
        have hJ146 : ∀ (gj_146 : jv_Mem), wB_X9_clueFor_146 K5 x3_5 x4_5 gj_146 → jv_V p l e (jv_rm 0 0 0 0) s m args below meth c 0 0 (jv_ZM below s0 D ids ex jv_SH (jv_qi Q) args s 0 0) s0 D ids ex jv_SH gj_146 146 [some (.ref (s0.heap.size + (126 : Int).toNat)), some (jv_i a1), some (jv_i a2), some (jv_i x3_5), some (jv_i x4_5), none, none] [] := by
          intro gj_146 h
          unfold wB_X9_clueFor_146 at h
          refine jv_iload_n C dX9_clueFor_146 rfl ?_
          exact jv_less (ls' := [some (.ref (s0.heap.size + (126 : Int).toNat)), some (jv_i a1), some (jv_i a2), none, some (jv_i x4_5), none, none]) ⟨rfl, ⟨rfl, ⟨rfl, ⟨rfl, trivial⟩⟩⟩⟩ (hJ147 _ _ h)
        obtain ⟨hr_117, h1_117, h2_117⟩ := h
        refine jv_if_eq (tgt := 146) C hr_117 dX9_clueFor_117 rfl (fun hc_117 => ?_) (fun hc_117 => ?_)
        · replace h := h1_117 hc_117
          exact jv_less (ls' := [some (.ref (s0.heap.size + (126 : Int).toNat)), some (jv_i a1), some (jv_i a2), some (jv_i x3_5), some (jv_i x4_5), none, none]) ⟨rfl, ⟨rfl, ⟨rfl, ⟨rfl, ⟨rfl, trivial⟩⟩⟩⟩⟩ (hJ146 _ h)
        · replace h := h2_117 hc_117
          refine jv_iload_n C dX9_clueFor_120 rfl ?_
          refine jv_const C dX9_clueFor_121 ?_
          have hJ141 : ∀ (gj_141 : jv_Mem), wB_X9_clueFor_141 K5 x4_5 gj_141 → jv_V p l e (jv_rm 0 0 0 0) s m args below meth c 0 0 (jv_ZM below s0 D ids ex jv_SH (jv_qi Q) args s 0 0) s0 D ids ex jv_SH gj_141 141 [some (.ref (s0.heap.size + (126 : Int).toNat)), some (jv_i a1), some (jv_i a2), none, some (jv_i x4_5), none, none] [] := by
            intro gj_141 h
            unfold wB_X9_clueFor_141 at h
            refine jv_iload C dX9_clueFor_141 rfl ?_
            refine jv_goto (tgt := 147) C dX9_clueFor_143 rfl ?_
            exact jv_less (ls' := [some (.ref (s0.heap.size + (126 : Int).toNat)), some (jv_i a1), some (jv_i a2), none, some (jv_i x4_5), none, none]) ⟨rfl, ⟨rfl, ⟨rfl, ⟨rfl, trivial⟩⟩⟩⟩ (hJ147 _ _ h)
          obtain ⟨hr_122, h1_122, h2_122⟩ := h
          refine jv_icmp_eq (tgt := 141) C hr_122 ⟨by decide, by decide⟩ dX9_clueFor_122 rfl (fun hc_122 => ?_) (fun hc_122 => ?_)
          · replace h := h1_122 hc_122
            exact jv_less (ls' := [some (.ref (s0.heap.size + (126 : Int).toNat)), some (jv_i a1), some (jv_i a2), none, some (jv_i x4_5), none, none]) ⟨rfl, ⟨rfl, ⟨rfl, ⟨rfl, trivial⟩⟩⟩⟩ (hJ141 _ h)
          · replace h := h2_122 hc_122
            refine jv_aload_n C dX9_clueFor_125 rfl ?_
            refine jv_getr C kf_X9_37 sS_126 rfl dX9_clueFor_126 ?_
            refine jv_iload C dX9_clueFor_129 rfl ?_
            obtain ⟨hb_131, h⟩ := h
            refine jv_iald C sS_136 rfl hb_131 dX9_clueFor_131 ?_
            refine jv_aload_n C dX9_clueFor_132 rfl ?_
            refine jv_getr C kf_X9_37 sS_126 rfl dX9_clueFor_133 ?_
            refine jv_iload_n C dX9_clueFor_136 rfl ?_
            obtain ⟨hb_137, h⟩ := h
            refine jv_iald C sS_136 rfl hb_137 dX9_clueFor_137 ?_
            obtain ⟨hr_138, h1_138, h2_138⟩ := h
            refine jv_icmp_ge (tgt := 146) C hr_138.1 hr_138.2 dX9_clueFor_138 rfl (fun hc_138 => ?_) (fun hc_138 => ?_)
            · replace h := h1_138 hc_138
              exact jv_less (ls' := [some (.ref (s0.heap.size + (126 : Int).toNat)), some (jv_i a1), some (jv_i a2), some (jv_i x3_5), some (jv_i x4_5), none, none]) ⟨rfl, ⟨rfl, ⟨rfl, ⟨rfl, ⟨rfl, trivial⟩⟩⟩⟩⟩ (hJ146 _ h)
            · replace h := h2_138 hc_138
              exact jv_less (ls' := [some (.ref (s0.heap.size + (126 : Int).toNat)), some (jv_i a1), some (jv_i a2), none, some (jv_i x4_5), none, none]) ⟨rfl, ⟨rfl, ⟨rfl, ⟨rfl, trivial⟩⟩⟩⟩ (hJ141 _ h)
      · replace h := h2_82 hc_82
        refine jv_iload C dX9_clueFor_85 rfl ?_
        have hJ107 : ∀ (y0_107 : Int) (gj_107 : jv_Mem), wB_X9_clueFor_107 K79 x6_79 y0_107 gj_107 → jv_V p l e (jv_rm 0 0 0 0) s m args below meth c 0 0 (jv_ZM below s0 D ids ex jv_SH (jv_qi Q) args s 0 0) s0 D ids ex jv_SH gj_107 107 [some (.ref (s0.heap.size + (126 : Int).toNat)), some (jv_i a1), some (jv_i a2), some (jv_i x3_5), some (jv_i x4_5), none, some (jv_i x6_79)] [jv_i y0_107] := by
          intro y0_107 gj_107 h
          unfold wB_X9_clueFor_107 at h
          refine jv_istore (ls' := [some (.ref (s0.heap.size + (126 : Int).toNat)), some (jv_i a1), some (jv_i a2), some (jv_i x3_5), some (jv_i x4_5), some (jv_i y0_107), some (jv_i x6_79)]) C dX9_clueFor_107 (Nat.lt_of_lt_of_eq (Nat.le_of_ble_eq_true rfl) hml) rfl ?_
          refine jv_iincn C dX9_clueFor_109 (Nat.lt_of_lt_of_eq (Nat.le_of_ble_eq_true rfl) hml) rfl (fun v6_109 ev6_109 => ?_)
          replace h := h v6_109 ev6_109
          refine jv_lset (ls' := [some (.ref (s0.heap.size + (126 : Int).toNat)), some (jv_i a1), some (jv_i a2), some (jv_i x3_5), some (jv_i x4_5), some (jv_i y0_107), some (jv_i v6_109)]) rfl ?_
          refine jv_goto (tgt := 79) C dX9_clueFor_112 rfl ?_
          exact jv_less (ls' := [some (.ref (s0.heap.size + (126 : Int).toNat)), some (jv_i a1), some (jv_i a2), some (jv_i x3_5), some (jv_i x4_5), some (jv_i y0_107), some (jv_i v6_109)]) ⟨rfl, ⟨rfl, ⟨rfl, ⟨rfl, ⟨rfl, ⟨rfl, ⟨rfl, trivial⟩⟩⟩⟩⟩⟩⟩ (hK79 _ _ _ h)
        have hJ106 : ∀ (gj_106 : jv_Mem), wB_X9_clueFor_106 K79 x6_79 gj_106 → jv_V p l e (jv_rm 0 0 0 0) s m args below meth c 0 0 (jv_ZM below s0 D ids ex jv_SH (jv_qi Q) args s 0 0) s0 D ids ex jv_SH gj_106 106 [some (.ref (s0.heap.size + (126 : Int).toNat)), some (jv_i a1), some (jv_i a2), some (jv_i x3_5), some (jv_i x4_5), none, some (jv_i x6_79)] [] := by
          intro gj_106 h
          unfold wB_X9_clueFor_106 at h
          refine jv_const C dX9_clueFor_106 ?_
          exact jv_less (ls' := [some (.ref (s0.heap.size + (126 : Int).toNat)), some (jv_i a1), some (jv_i a2), some (jv_i x3_5), some (jv_i x4_5), none, some (jv_i x6_79)]) ⟨rfl, ⟨rfl, ⟨rfl, ⟨rfl, ⟨rfl, ⟨rfl, trivial⟩⟩⟩⟩⟩⟩ (hJ107 _ _ h)
        obtain ⟨hr_87, h1_87, h2_87⟩ := h
        refine jv_if_eq (tgt := 106) C hr_87 dX9_clueFor_87 rfl (fun hc_87 => ?_) (fun hc_87 => ?_)
        · replace h := h1_87 hc_87
          exact jv_less (ls' := [some (.ref (s0.heap.size + (126 : Int).toNat)), some (jv_i a1), some (jv_i a2), some (jv_i x3_5), some (jv_i x4_5), none, some (jv_i x6_79)]) ⟨rfl, ⟨rfl, ⟨rfl, ⟨rfl, ⟨rfl, ⟨rfl, trivial⟩⟩⟩⟩⟩⟩ (hJ106 _ h)
        · replace h := h2_87 hc_87
          refine jv_aload_n C dX9_clueFor_90 rfl ?_
          refine jv_getr C kf_X9_52 sS_126 rfl dX9_clueFor_91 ?_
          refine jv_iload C dX9_clueFor_94 rfl ?_
          obtain ⟨hb_96, h⟩ := h
          refine jv_iald C sS_141 rfl hb_96 dX9_clueFor_96 ?_
          refine jv_iload C dX9_clueFor_97 rfl ?_
          obtain ⟨hr_99, h1_99, h2_99⟩ := h
          refine jv_icmp_eq (tgt := 106) C hr_99.1 hr_99.2 dX9_clueFor_99 rfl (fun hc_99 => ?_) (fun hc_99 => ?_)
          · replace h := h1_99 hc_99
            exact jv_less (ls' := [some (.ref (s0.heap.size + (126 : Int).toNat)), some (jv_i a1), some (jv_i a2), some (jv_i x3_5), some (jv_i x4_5), none, some (jv_i x6_79)]) ⟨rfl, ⟨rfl, ⟨rfl, ⟨rfl, ⟨rfl, ⟨rfl, trivial⟩⟩⟩⟩⟩⟩ (hJ106 _ h)
          · replace h := h2_99 hc_99
            refine jv_const C dX9_clueFor_102 ?_
            refine jv_goto (tgt := 107) C dX9_clueFor_103 rfl ?_
            exact jv_less (ls' := [some (.ref (s0.heap.size + (126 : Int).toNat)), some (jv_i a1), some (jv_i a2), some (jv_i x3_5), some (jv_i x4_5), none, some (jv_i x6_79)]) ⟨rfl, ⟨rfl, ⟨rfl, ⟨rfl, ⟨rfl, ⟨rfl, trivial⟩⟩⟩⟩⟩⟩ (hJ107 _ _ h)
    have hJ73 : ∀ (gj_73 : jv_Mem), wB_X9_clueFor_73 a1 K5 x3_5 x4_5 gj_73 → jv_V p l e (jv_rm 0 0 0 0) s m args below meth c 0 0 (jv_ZM below s0 D ids ex jv_SH (jv_qi Q) args s 0 0) s0 D ids ex jv_SH gj_73 73 [some (.ref (s0.heap.size + (126 : Int).toNat)), some (jv_i a1), some (jv_i a2), some (jv_i x3_5), some (jv_i x4_5), none, none] [] := by
      intro gj_73 h
      unfold wB_X9_clueFor_73 at h
      refine jv_const C dX9_clueFor_73 ?_
      exact jv_less (ls' := [some (.ref (s0.heap.size + (126 : Int).toNat)), some (jv_i a1), some (jv_i a2), some (jv_i x3_5), some (jv_i x4_5), none, none]) ⟨rfl, ⟨rfl, ⟨rfl, ⟨rfl, ⟨rfl, trivial⟩⟩⟩⟩⟩ (hJ74 _ _ h)
    obtain ⟨hr_22, h1_22, h2_22⟩ := h
    refine jv_icmp_ne (tgt := 73) C hr_22.1 hr_22.2 dX9_clueFor_22 rfl (fun hc_22 => ?_) (fun hc_22 => ?_)
    · replace h := h1_22 hc_22
      exact jv_less (ls' := [some (.ref (s0.heap.size + (126 : Int).toNat)), some (jv_i a1), some (jv_i a2), some (jv_i x3_5), some (jv_i x4_5), none, none]) ⟨rfl, ⟨rfl, ⟨rfl, ⟨rfl, ⟨rfl, trivial⟩⟩⟩⟩⟩ (hJ73 _ h)
    · replace h := h2_22 hc_22
      refine jv_aload_n C dX9_clueFor_25 rfl ?_
      refine jv_getr C kf_X9_34 sS_126 rfl dX9_clueFor_26 ?_
      refine jv_iload C dX9_clueFor_29 rfl ?_
      obtain ⟨hb_31, h⟩ := h
      refine jv_iald C sS_135 rfl hb_31 dX9_clueFor_31 ?_
      refine jv_const C dX9_clueFor_32 ?_
      obtain ⟨hr_33, h1_33, h2_33⟩ := h
      refine jv_icmp_ne (tgt := 73) C hr_33 ⟨by decide, by decide⟩ dX9_clueFor_33 rfl (fun hc_33 => ?_) (fun hc_33 => ?_)
      · replace h := h1_33 hc_33
        exact jv_less (ls' := [some (.ref (s0.heap.size + (126 : Int).toNat)), some (jv_i a1), some (jv_i a2), some (jv_i x3_5), some (jv_i x4_5), none, none]) ⟨rfl, ⟨rfl, ⟨rfl, ⟨rfl, ⟨rfl, trivial⟩⟩⟩⟩⟩ (hJ73 _ h)
      · replace h := h2_33 hc_33
        refine jv_aload_n C dX9_clueFor_36 rfl ?_
        refine jv_getr C kf_X9_37 sS_126 rfl dX9_clueFor_37 ?_
        refine jv_iload C dX9_clueFor_40 rfl ?_
        obtain ⟨hb_42, h⟩ := h
        refine jv_iald C sS_136 rfl hb_42 dX9_clueFor_42 ?_
        have hJ69 : ∀ (gj_69 : jv_Mem), wB_X9_clueFor_69 a1 K5 x3_5 x4_5 gj_69 → jv_V p l e (jv_rm 0 0 0 0) s m args below meth c 0 0 (jv_ZM below s0 D ids ex jv_SH (jv_qi Q) args s 0 0) s0 D ids ex jv_SH gj_69 69 [some (.ref (s0.heap.size + (126 : Int).toNat)), some (jv_i a1), some (jv_i a2), some (jv_i x3_5), some (jv_i x4_5), none, none] [] := by
          intro gj_69 h
          unfold wB_X9_clueFor_69 at h
          refine jv_const C dX9_clueFor_69 ?_
          refine jv_goto (tgt := 74) C dX9_clueFor_70 rfl ?_
          exact jv_less (ls' := [some (.ref (s0.heap.size + (126 : Int).toNat)), some (jv_i a1), some (jv_i a2), some (jv_i x3_5), some (jv_i x4_5), none, none]) ⟨rfl, ⟨rfl, ⟨rfl, ⟨rfl, ⟨rfl, trivial⟩⟩⟩⟩⟩ (hJ74 _ _ h)
        obtain ⟨hr_43, h1_43, h2_43⟩ := h
        refine jv_if_eq (tgt := 69) C hr_43 dX9_clueFor_43 rfl (fun hc_43 => ?_) (fun hc_43 => ?_)
        · replace h := h1_43 hc_43
          exact jv_less (ls' := [some (.ref (s0.heap.size + (126 : Int).toNat)), some (jv_i a1), some (jv_i a2), some (jv_i x3_5), some (jv_i x4_5), none, none]) ⟨rfl, ⟨rfl, ⟨rfl, ⟨rfl, ⟨rfl, trivial⟩⟩⟩⟩⟩ (hJ69 _ h)
        · replace h := h2_43 hc_43
          refine jv_aload_n C dX9_clueFor_46 rfl ?_
          refine jv_geti C kf_X9_141 sS_126 rfl dX9_clueFor_47 ?_
          refine jv_bipush C dX9_clueFor_50 (by decide +kernel) ?_
          refine jv_idiv C (by decide +kernel) dX9_clueFor_52 ?_
          refine jv_aload_n C dX9_clueFor_53 rfl ?_
          refine jv_getr C kf_X9_37 sS_126 rfl dX9_clueFor_54 ?_
          refine jv_iload C dX9_clueFor_57 rfl ?_
          obtain ⟨hb_59, h⟩ := h
          refine jv_iald C sS_136 rfl hb_59 dX9_clueFor_59 ?_
          refine jv_isub C dX9_clueFor_60 ?_
          refine jv_const C dX9_clueFor_61 ?_
          refine jv_iadd C dX9_clueFor_62 ?_
          refine jv_sipush C dX9_clueFor_63 (by decide +kernel) ?_
          obtain ⟨hr_66, h1_66, h2_66⟩ := h
          refine jv_icmp_lt (tgt := 73) C hr_66 ⟨by decide, by decide⟩ dX9_clueFor_66 rfl (fun hc_66 => ?_) (fun hc_66 => ?_)
          · replace h := h1_66 hc_66
            exact jv_less (ls' := [some (.ref (s0.heap.size + (126 : Int).toNat)), some (jv_i a1), some (jv_i a2), some (jv_i x3_5), some (jv_i x4_5), none, none]) ⟨rfl, ⟨rfl, ⟨rfl, ⟨rfl, ⟨rfl, trivial⟩⟩⟩⟩⟩ (hJ73 _ h)
          · replace h := h2_66 hc_66
            exact jv_less (ls' := [some (.ref (s0.heap.size + (126 : Int).toNat)), some (jv_i a1), some (jv_i a2), some (jv_i x3_5), some (jv_i x4_5), none, none]) ⟨rfl, ⟨rfl, ⟨rfl, ⟨rfl, ⟨rfl, trivial⟩⟩⟩⟩⟩ (hJ69 _ h)

def wB_X9_publish_163 (Q : Int → jv_Mem → Prop) (x1_79 : Int) (gj_163 : jv_Mem) : Prop :=
  ((jv_r x1_79) ∧ (¬ x1_79 = 0 → jv_lp1 (fun (K175 : Int → jv_Mem → Prop) (x2_175 : Int) (gl_175 : jv_Mem) => ((jv_r x2_175) ∧ (6 ≤ x2_175 → jv_lp1 (fun (K229 : Int → jv_Mem → Prop) (x2_229 : Int) (gl_229 : jv_Mem) => ((jv_r x2_229) ∧ (9 ≤ x2_229 → (((0 : Int) ≤ gl_229 126 16 ∧ gl_229 126 16 < (20 : Int)) ∧ (∀ g_286 : jv_Mem, g_286 = jv_up gl_229 137 (gl_229 126 16) (gl_229 126 15) → (∀ g_294 : jv_Mem, g_294 = jv_up g_286 126 16 ((g_286 126 16) + 1) → Q ((g_294 126 16) - 1) g_294)))) ∧ (x2_229 < 9 → (((0 : Int) ≤ jv_div x2_229 3 ∧ jv_div x2_229 3 < (3 : Int)) ∧ (((0 : Int) ≤ gl_229 133 (jv_div x2_229 3) ∧ gl_229 133 (jv_div x2_229 3) < (30 : Int)) ∧ (wp_X9_letterOf (gl_229 129 (gl_229 133 (jv_div x2_229 3))) (jv_rem x2_229 3) (fun (r_264 : Int) (g_264 : jv_Mem) => (((0 : Int) ≤ (9 * (gl_229 126 16)) + x2_229 ∧ (9 * (gl_229 126 16)) + x2_229 < (180 : Int)) ∧ (∀ g_267 : jv_Mem, g_267 = jv_up g_264 138 ((9 * (gl_229 126 16)) + x2_229) r_264 → (∀ v2_268 : Int, v2_268 = x2_229 + 1 → K229 v2_268 g_267)))) gl_229)))))) 0 gl_175) ∧ (x2_175 < 6 → (((0 : Int) ≤ x2_175 ∧ x2_175 < (6 : Int)) ∧ (((0 : Int) ≤ (6 * (gl_175 126 16)) + x2_175 ∧ (6 * (gl_175 126 16)) + x2_175 < (120 : Int)) ∧ (∀ g_200 : jv_Mem, g_200 = jv_up gl_175 139 ((6 * (gl_175 126 16)) + x2_175) (gl_175 141 x2_175) → (((0 : Int) ≤ x2_175 ∧ x2_175 < (6 : Int)) ∧ (((0 : Int) ≤ g_200 141 x2_175 ∧ g_200 141 x2_175 < (60 : Int)) ∧ (∀ g_220 : jv_Mem, g_220 = jv_up g_200 136 (g_200 141 x2_175) ((jv_div (g_200 126 15) 24) + 1) → (∀ v2_221 : Int, v2_221 = x2_175 + 1 → K175 v2_221 g_220)))))))))) 0 gj_163) ∧ (x1_79 = 0 → (wp_X9_fails 1 (fun (r_169 : Int) (g_169 : jv_Mem) => Q r_169 g_169) gj_163)))
def wB_X9_publish_156 (K79 : Int → Int → jv_Mem → Prop) (x2_79 : Int) (y0_156 : Int) (gj_156 : jv_Mem) : Prop :=
  (∀ v2_157 : Int, v2_157 = x2_79 + 1 → K79 y0_156 v2_157 gj_156)
def wB_X9_publish_128 (K79 : Int → Int → jv_Mem → Prop) (x2_79 : Int) (y0_128 : Int) (gj_128 : jv_Mem) : Prop :=
  (wp_X9_clueFor x2_79 y0_128 (fun (r_137 : Int) (g_137 : jv_Mem) => (((0 : Int) ≤ x2_79 ∧ x2_79 < (6 : Int)) ∧ (∀ g_140 : jv_Mem, g_140 = jv_up g_137 141 x2_79 r_137 → (((0 : Int) ≤ x2_79 ∧ x2_79 < (6 : Int)) ∧ ((jv_r (g_140 141 x2_79)) ∧ ((g_140 141 x2_79) = ((-1)) → wB_X9_publish_156 K79 x2_79 0 g_140) ∧ (¬ (g_140 141 x2_79) = ((-1)) → wB_X9_publish_156 K79 x2_79 1 g_140)))))) gj_128)
def wB_X9_publish_76 (Q : Int → jv_Mem → Prop) (y0_76 : Int) (gj_76 : jv_Mem) : Prop :=
  jv_lp2 (fun (K79 : Int → Int → jv_Mem → Prop) (x1_79 x2_79 : Int) (gl_79 : jv_Mem) => ((jv_r x2_79) ∧ (6 ≤ x2_79 → wB_X9_publish_163 Q x1_79 gl_79) ∧ (x2_79 < 6 → ((jv_r x1_79) ∧ (x1_79 = 0 → wB_X9_publish_163 Q x1_79 gl_79) ∧ (¬ x1_79 = 0 → ((jv_r x2_79) ∧ (3 ≤ x2_79 → (((0 : Int) ≤ 0 ∧ 0 < (3 : Int)) ∧ (((0 : Int) ≤ 1 ∧ 1 < (3 : Int)) ∧ (((0 : Int) ≤ 2 ∧ 2 < (3 : Int)) ∧ (wp_X9_columnOf (gl_79 133 0) (gl_79 133 1) (gl_79 133 2) (x2_79 - 3) (fun (r_125 : Int) (g_125 : jv_Mem) => wB_X9_publish_128 K79 x2_79 r_125 g_125) gl_79))))) ∧ (x2_79 < 3 → (((0 : Int) ≤ x2_79 ∧ x2_79 < (3 : Int)) ∧ wB_X9_publish_128 K79 x2_79 (gl_79 133 x2_79) gl_79)))))))) y0_76 0 gj_76
def wB_X9_publish_75 (Q : Int → jv_Mem → Prop) (gj_75 : jv_Mem) : Prop :=
  wB_X9_publish_76 Q 0 gj_75
def wB_X9_publish_59 (Q : Int → jv_Mem → Prop) (y0_50 : Int) (gj_59 : jv_Mem) : Prop :=
  ((jv_r y0_50) ∧ (y0_50 = 0 → wB_X9_publish_75 Q gj_59) ∧ (¬ y0_50 = 0 → ((jv_r (gj_59 126 9)) ∧ ((gj_59 126 9) = ((-1)) → wB_X9_publish_75 Q gj_59) ∧ (¬ (gj_59 126 9) = ((-1)) → wB_X9_publish_76 Q 1 gj_59))))
def wB_X9_publish_50 (Q : Int → jv_Mem → Prop) (y0_50 : Int) (gj_50 : jv_Mem) : Prop :=
  ((jv_r y0_50) ∧ (y0_50 = 0 → wB_X9_publish_59 Q y0_50 gj_50) ∧ (¬ y0_50 = 0 → (wp_X9_findsFills (fun (g_56 : jv_Mem) => wB_X9_publish_59 Q y0_50 g_56) gj_50)))
def wB_X9_publish_49 (Q : Int → jv_Mem → Prop) (gj_49 : jv_Mem) : Prop :=
  wB_X9_publish_50 Q 0 gj_49
def wB_X9_publish_45 (Q : Int → jv_Mem → Prop) (gj_45 : jv_Mem) : Prop :=
  wB_X9_publish_50 Q 1 gj_45
def wp_X9_publish (Q : Int → jv_Mem → Prop) (g : jv_Mem) : Prop :=
  (∀ g_2 : jv_Mem, g_2 = jv_up g 126 29 0 → ((jv_r (g_2 126 16)) ∧ (20 ≤ (g_2 126 16) → wB_X9_publish_49 Q g_2) ∧ ((g_2 126 16) < 20 → ((jv_r (g_2 126 16)) ∧ ((g_2 126 16) = 0 → wB_X9_publish_45 Q g_2) ∧ (¬ (g_2 126 16) = 0 → (((0 : Int) ≤ (g_2 126 16) - 1 ∧ (g_2 126 16) - 1 < (20 : Int)) ∧ ((jv_r (jv_div (g_2 137 ((g_2 126 16) - 1)) 24) ∧ jv_r (jv_div (g_2 126 15) 24)) ∧ ((jv_div (g_2 137 ((g_2 126 16) - 1)) 24) = (jv_div (g_2 126 15) 24) → wB_X9_publish_49 Q g_2) ∧ (¬ (jv_div (g_2 137 ((g_2 126 16) - 1)) 24) = (jv_div (g_2 126 15) 24) → wB_X9_publish_45 Q g_2))))))))
set_option maxHeartbeats 4000000 in
set_option maxRecDepth 100000 in
theorem M_X9_publish {l : Launch} {s0 : State} {b0 : Addr} {D : va_G} {ids : Nat → ClassId} {ex : Option Nat} {g : jv_Mem} {Q : Int → jv_Mem → Prop} (h : wp_X9_publish Q g) : jv_M l s0 b0 D ids yX9_publish cX9_publish 4 (some .int) 4 94 0 0 ex jv_SH g [.ref (s0.heap.size + (126 : Int).toNat)] ex jv_SH (jv_qi Q) := by
  refine jv_M.of (by decide +kernel) rfl rfl (fun p e s m args below meth c C hml hr hlk hnm => ?_)
  replace C : jv_C p s m args c cX9_publish RX9 s0 b0 D ids := C
  show jv_V p l e (jv_rm 4 94 0 0) s m args below meth c 0 0 (jv_ZM below s0 D ids ex jv_SH (jv_qi Q) args s 0 0) s0 D ids ex jv_SH g 0 [some (.ref (s0.heap.size + (126 : Int).toNat)), none, none, none] []
  unfold wp_X9_publish at h
  refine jv_aload_n C dX9_publish_0 rfl ?_
  refine jv_const C dX9_publish_1 ?_
  refine jv_puti C kf_X9_73 sS_126 rfl dX9_publish_2 (jv_gm (fun g_2 eg_2 => ?_))
  replace h := h g_2 eg_2
  refine jv_aload_n C dX9_publish_5 rfl ?_
  refine jv_geti C kf_X9_144 sS_126 rfl dX9_publish_6 ?_
  refine jv_bipush C dX9_publish_9 (by decide +kernel) ?_
  have hJ50 : ∀ (y0_50 : Int) (gj_50 : jv_Mem), wB_X9_publish_50 Q y0_50 gj_50 → jv_V p l e (jv_rm 4 94 0 0) s m args below meth c 0 0 (jv_ZM below s0 D ids ex jv_SH (jv_qi Q) args s 0 0) s0 D ids ex jv_SH gj_50 50 [some (.ref (s0.heap.size + (126 : Int).toNat)), none, none, none] [jv_i y0_50] := by
    intro y0_50 gj_50 h
    unfold wB_X9_publish_50 at h
    refine jv_istore_n (ls' := [some (.ref (s0.heap.size + (126 : Int).toNat)), some (jv_i y0_50), none, none]) C dX9_publish_50 (Nat.lt_of_lt_of_eq (Nat.le_of_ble_eq_true rfl) hml) rfl ?_
    refine jv_iload_n C dX9_publish_51 rfl ?_
    have hJ59 : ∀ (gj_59 : jv_Mem), wB_X9_publish_59 Q y0_50 gj_59 → jv_V p l e (jv_rm 4 94 0 0) s m args below meth c 0 0 (jv_ZM below s0 D ids ex jv_SH (jv_qi Q) args s 0 0) s0 D ids ex jv_SH gj_59 59 [some (.ref (s0.heap.size + (126 : Int).toNat)), some (jv_i y0_50), none, none] [] := by
      intro gj_59 h
      unfold wB_X9_publish_59 at h
      refine jv_iload_n C dX9_publish_59 rfl ?_
      have hJ76 : ∀ (y0_76 : Int) (gj_76 : jv_Mem), wB_X9_publish_76 Q y0_76 gj_76 → jv_V p l e (jv_rm 4 94 0 0) s m args below meth c 0 0 (jv_ZM below s0 D ids ex jv_SH (jv_qi Q) args s 0 0) s0 D ids ex jv_SH gj_76 76 [some (.ref (s0.heap.size + (126 : Int).toNat)), none, none, none] [jv_i y0_76] := by
        intro y0_76 gj_76 h
        unfold wB_X9_publish_76 at h
        refine jv_istore_n (ls' := [some (.ref (s0.heap.size + (126 : Int).toNat)), some (jv_i y0_76), none, none]) C dX9_publish_76 (Nat.lt_of_lt_of_eq (Nat.le_of_ble_eq_true rfl) hml) rfl ?_
        refine jv_const C dX9_publish_77 ?_
        refine jv_istore_n (ls' := [some (.ref (s0.heap.size + (126 : Int).toNat)), some (jv_i y0_76), some (jv_i 0), none]) C dX9_publish_78 (Nat.lt_of_lt_of_eq (Nat.le_of_ble_eq_true rfl) hml) rfl ?_
        refine jv_less (ls' := [some (.ref (s0.heap.size + (126 : Int).toNat)), some (jv_i y0_76), some (jv_i 0), none]) ⟨rfl, ⟨rfl, ⟨rfl, trivial⟩⟩⟩ ?_
        refine jv_lp2.use h (fun (x1_79 x2_79 : Int) (gl_79 : jv_Mem) => jv_V p l e (jv_rm 4 94 0 0) s m args below meth c 0 0 (jv_ZM below s0 D ids ex jv_SH (jv_qi Q) args s 0 0) s0 D ids ex jv_SH gl_79 79 [some (.ref (s0.heap.size + (126 : Int).toNat)), some (jv_i x1_79), some (jv_i x2_79), none] []) ?_
        intro K79 hK79 x1_79 x2_79 gl_79 h
        refine jv_iload_n C dX9_publish_79 rfl ?_
        refine jv_bipush C dX9_publish_80 (by decide +kernel) ?_
        have hJ163 : ∀ (gj_163 : jv_Mem), wB_X9_publish_163 Q x1_79 gj_163 → jv_V p l e (jv_rm 4 94 0 0) s m args below meth c 0 0 (jv_ZM below s0 D ids ex jv_SH (jv_qi Q) args s 0 0) s0 D ids ex jv_SH gj_163 163 [some (.ref (s0.heap.size + (126 : Int).toNat)), some (jv_i x1_79), none, none] [] := by
          intro gj_163 h
          unfold wB_X9_publish_163 at h
          refine jv_iload_n C dX9_publish_163 rfl ?_
          obtain ⟨hr_164, h1_164, h2_164⟩ := h
          refine jv_if_ne (tgt := 173) C hr_164 dX9_publish_164 rfl (fun hc_164 => ?_) (fun hc_164 => ?_)
          · replace h := h1_164 hc_164
            refine jv_const C dX9_publish_173 ?_
            refine jv_istore_n (ls' := [some (.ref (s0.heap.size + (126 : Int).toNat)), some (jv_i x1_79), some (jv_i 0), none]) C dX9_publish_174 (Nat.lt_of_lt_of_eq (Nat.le_of_ble_eq_true rfl) hml) rfl ?_
            refine jv_less (ls' := [some (.ref (s0.heap.size + (126 : Int).toNat)), none, some (jv_i 0), none]) ⟨rfl, ⟨rfl, trivial⟩⟩ ?_
            refine jv_lp1.use h (fun (x2_175 : Int) (gl_175 : jv_Mem) => jv_V p l e (jv_rm 4 94 0 0) s m args below meth c 0 0 (jv_ZM below s0 D ids ex jv_SH (jv_qi Q) args s 0 0) s0 D ids ex jv_SH gl_175 175 [some (.ref (s0.heap.size + (126 : Int).toNat)), none, some (jv_i x2_175), none] []) ?_
            intro K175 hK175 x2_175 gl_175 h
            refine jv_iload_n C dX9_publish_175 rfl ?_
            refine jv_bipush C dX9_publish_176 (by decide +kernel) ?_
            obtain ⟨hr_178, h1_178, h2_178⟩ := h
            refine jv_icmp_ge (tgt := 227) C hr_178 ⟨by decide, by decide⟩ dX9_publish_178 rfl (fun hc_178 => ?_) (fun hc_178 => ?_)
            · replace h := h1_178 hc_178
              refine jv_const C dX9_publish_227 ?_
              refine jv_istore_n (ls' := [some (.ref (s0.heap.size + (126 : Int).toNat)), none, some (jv_i 0), none]) C dX9_publish_228 (Nat.lt_of_lt_of_eq (Nat.le_of_ble_eq_true rfl) hml) rfl ?_
              refine jv_less (ls' := [some (.ref (s0.heap.size + (126 : Int).toNat)), none, some (jv_i 0), none]) ⟨rfl, ⟨rfl, trivial⟩⟩ ?_
              refine jv_lp1.use h (fun (x2_229 : Int) (gl_229 : jv_Mem) => jv_V p l e (jv_rm 4 94 0 0) s m args below meth c 0 0 (jv_ZM below s0 D ids ex jv_SH (jv_qi Q) args s 0 0) s0 D ids ex jv_SH gl_229 229 [some (.ref (s0.heap.size + (126 : Int).toNat)), none, some (jv_i x2_229), none] []) ?_
              intro K229 hK229 x2_229 gl_229 h
              refine jv_iload_n C dX9_publish_229 rfl ?_
              refine jv_bipush C dX9_publish_230 (by decide +kernel) ?_
              obtain ⟨hr_232, h1_232, h2_232⟩ := h
              refine jv_icmp_ge (tgt := 274) C hr_232 ⟨by decide, by decide⟩ dX9_publish_232 rfl (fun hc_232 => ?_) (fun hc_232 => ?_)
              · replace h := h1_232 hc_232
                refine jv_aload_n C dX9_publish_274 rfl ?_
                refine jv_getr C kf_X9_40 sS_126 rfl dX9_publish_275 ?_
                refine jv_aload_n C dX9_publish_278 rfl ?_
                refine jv_geti C kf_X9_144 sS_126 rfl dX9_publish_279 ?_
                refine jv_aload_n C dX9_publish_282 rfl ?_
                refine jv_geti C kf_X9_141 sS_126 rfl dX9_publish_283 ?_
                obtain ⟨hb_286, h⟩ := h
                refine jv_iast C sS_137 rfl hb_286 dX9_publish_286 (jv_gm (fun g_286 eg_286 => ?_))
                replace h := h g_286 eg_286
                refine jv_aload_n C dX9_publish_287 rfl ?_
                refine jv_dup C rfl dX9_publish_288 ?_
                refine jv_geti C kf_X9_144 sS_126 rfl dX9_publish_289 ?_
                refine jv_const C dX9_publish_292 ?_
                refine jv_iadd C dX9_publish_293 ?_
                refine jv_puti C kf_X9_144 sS_126 rfl dX9_publish_294 (jv_gm (fun g_294 eg_294 => ?_))
                replace h := h g_294 eg_294
                refine jv_aload_n C dX9_publish_297 rfl ?_
                refine jv_geti C kf_X9_144 sS_126 rfl dX9_publish_298 ?_
                refine jv_const C dX9_publish_301 ?_
                refine jv_isub C dX9_publish_302 ?_
                exact jv_iret C hr hlk ⟨_, rfl, h⟩ dX9_publish_303 ⟨rfl, rfl⟩
              · replace h := h2_232 hc_232
                refine jv_aload_n C dX9_publish_235 rfl ?_
                refine jv_getr C kf_X9_43 sS_126 rfl dX9_publish_236 ?_
                refine jv_bipush C dX9_publish_239 (by decide +kernel) ?_
                refine jv_aload_n C dX9_publish_241 rfl ?_
                refine jv_geti C kf_X9_144 sS_126 rfl dX9_publish_242 ?_
                refine jv_imul C dX9_publish_245 ?_
                refine jv_iload_n C dX9_publish_246 rfl ?_
                refine jv_iadd C dX9_publish_247 ?_
                refine jv_aload_n C dX9_publish_248 rfl ?_
                refine jv_getr C kf_X9_16 sS_126 rfl dX9_publish_249 ?_
                refine jv_aload_n C dX9_publish_252 rfl ?_
                refine jv_getr C kf_X9_28 sS_126 rfl dX9_publish_253 ?_
                refine jv_iload_n C dX9_publish_256 rfl ?_
                refine jv_const C dX9_publish_257 ?_
                refine jv_idiv C (by decide +kernel) dX9_publish_258 ?_
                obtain ⟨hb_259, h⟩ := h
                refine jv_iald C sS_133 rfl hb_259 dX9_publish_259 ?_
                obtain ⟨hb_260, h⟩ := h
                refine jv_iald C sS_129 rfl hb_260 dX9_publish_260 ?_
                refine jv_iload_n C dX9_publish_261 rfl ?_
                refine jv_const C dX9_publish_262 ?_
                refine jv_irem C (by decide +kernel) dX9_publish_263 ?_
                refine jv_callSi C (M_X9_letterOf h) kw_X9_107 rfl ⟨rfl, rfl⟩ (st := [jv_i ((9 * (gl_229 126 16)) + x2_229), .ref (s0.heap.size + (138 : Int).toNat)]) rfl rfl ⟨rfl, rfl⟩ dX9_publish_264 (fun r_264 g_264 h => ?_)
                obtain ⟨hb_267, h⟩ := h
                refine jv_iast C sS_138 rfl hb_267 dX9_publish_267 (jv_gm (fun g_267 eg_267 => ?_))
                replace h := h g_267 eg_267
                refine jv_iincn C dX9_publish_268 (Nat.lt_of_lt_of_eq (Nat.le_of_ble_eq_true rfl) hml) rfl (fun v2_268 ev2_268 => ?_)
                replace h := h v2_268 ev2_268
                refine jv_lset (ls' := [some (.ref (s0.heap.size + (126 : Int).toNat)), none, some (jv_i v2_268), none]) rfl ?_
                refine jv_goto (tgt := 229) C dX9_publish_271 rfl ?_
                exact jv_less (ls' := [some (.ref (s0.heap.size + (126 : Int).toNat)), none, some (jv_i v2_268), none]) ⟨rfl, ⟨rfl, trivial⟩⟩ (hK229 _ _ h)
            · replace h := h2_178 hc_178
              refine jv_aload_n C dX9_publish_181 rfl ?_
              refine jv_getr C kf_X9_46 sS_126 rfl dX9_publish_182 ?_
              refine jv_bipush C dX9_publish_185 (by decide +kernel) ?_
              refine jv_aload_n C dX9_publish_187 rfl ?_
              refine jv_geti C kf_X9_144 sS_126 rfl dX9_publish_188 ?_
              refine jv_imul C dX9_publish_191 ?_
              refine jv_iload_n C dX9_publish_192 rfl ?_
              refine jv_iadd C dX9_publish_193 ?_
              refine jv_aload_n C dX9_publish_194 rfl ?_
              refine jv_getr C kf_X9_52 sS_126 rfl dX9_publish_195 ?_
              refine jv_iload_n C dX9_publish_198 rfl ?_
              obtain ⟨hb_199, h⟩ := h
              refine jv_iald C sS_141 rfl hb_199 dX9_publish_199 ?_
              obtain ⟨hb_200, h⟩ := h
              refine jv_iast C sS_139 rfl hb_200 dX9_publish_200 (jv_gm (fun g_200 eg_200 => ?_))
              replace h := h g_200 eg_200
              refine jv_aload_n C dX9_publish_201 rfl ?_
              refine jv_getr C kf_X9_37 sS_126 rfl dX9_publish_202 ?_
              refine jv_aload_n C dX9_publish_205 rfl ?_
              refine jv_getr C kf_X9_52 sS_126 rfl dX9_publish_206 ?_
              refine jv_iload_n C dX9_publish_209 rfl ?_
              obtain ⟨hb_210, h⟩ := h
              refine jv_iald C sS_141 rfl hb_210 dX9_publish_210 ?_
              refine jv_aload_n C dX9_publish_211 rfl ?_
              refine jv_geti C kf_X9_141 sS_126 rfl dX9_publish_212 ?_
              refine jv_bipush C dX9_publish_215 (by decide +kernel) ?_
              refine jv_idiv C (by decide +kernel) dX9_publish_217 ?_
              refine jv_const C dX9_publish_218 ?_
              refine jv_iadd C dX9_publish_219 ?_
              obtain ⟨hb_220, h⟩ := h
              refine jv_iast C sS_136 rfl hb_220 dX9_publish_220 (jv_gm (fun g_220 eg_220 => ?_))
              replace h := h g_220 eg_220
              refine jv_iincn C dX9_publish_221 (Nat.lt_of_lt_of_eq (Nat.le_of_ble_eq_true rfl) hml) rfl (fun v2_221 ev2_221 => ?_)
              replace h := h v2_221 ev2_221
              refine jv_lset (ls' := [some (.ref (s0.heap.size + (126 : Int).toNat)), none, some (jv_i v2_221), none]) rfl ?_
              refine jv_goto (tgt := 175) C dX9_publish_224 rfl ?_
              exact jv_less (ls' := [some (.ref (s0.heap.size + (126 : Int).toNat)), none, some (jv_i v2_221), none]) ⟨rfl, ⟨rfl, trivial⟩⟩ (hK175 _ _ h)
          · replace h := h2_164 hc_164
            refine jv_aload_n C dX9_publish_167 rfl ?_
            refine jv_const C dX9_publish_168 ?_
            refine jv_callVi C (M_X9_fails h) kw_X9_97 sS_126 rfl rfl ⟨rfl, rfl⟩ (st := []) rfl rfl ⟨rfl, rfl⟩ dX9_publish_169 (fun r_169 g_169 h => ?_)
            exact jv_iret C hr hlk ⟨_, rfl, h⟩ dX9_publish_172 ⟨rfl, rfl⟩
        obtain ⟨hr_82, h1_82, h2_82⟩ := h
        refine jv_icmp_ge (tgt := 163) C hr_82 ⟨by decide, by decide⟩ dX9_publish_82 rfl (fun hc_82 => ?_) (fun hc_82 => ?_)
        · replace h := h1_82 hc_82
          exact jv_less (ls' := [some (.ref (s0.heap.size + (126 : Int).toNat)), some (jv_i x1_79), none, none]) ⟨rfl, ⟨rfl, trivial⟩⟩ (hJ163 _ h)
        · replace h := h2_82 hc_82
          refine jv_iload_n C dX9_publish_85 rfl ?_
          obtain ⟨hr_86, h1_86, h2_86⟩ := h
          refine jv_if_eq (tgt := 163) C hr_86 dX9_publish_86 rfl (fun hc_86 => ?_) (fun hc_86 => ?_)
          · replace h := h1_86 hc_86
            exact jv_less (ls' := [some (.ref (s0.heap.size + (126 : Int).toNat)), some (jv_i x1_79), none, none]) ⟨rfl, ⟨rfl, trivial⟩⟩ (hJ163 _ h)
          · replace h := h2_86 hc_86
            refine jv_iload_n C dX9_publish_89 rfl ?_
            refine jv_const C dX9_publish_90 ?_
            have hJ128 : ∀ (y0_128 : Int) (gj_128 : jv_Mem), wB_X9_publish_128 K79 x2_79 y0_128 gj_128 → jv_V p l e (jv_rm 4 94 0 0) s m args below meth c 0 0 (jv_ZM below s0 D ids ex jv_SH (jv_qi Q) args s 0 0) s0 D ids ex jv_SH gj_128 128 [some (.ref (s0.heap.size + (126 : Int).toNat)), none, some (jv_i x2_79), none] [jv_i y0_128] := by
              intro y0_128 gj_128 h
              unfold wB_X9_publish_128 at h
              refine jv_istore_n (ls' := [some (.ref (s0.heap.size + (126 : Int).toNat)), none, some (jv_i x2_79), some (jv_i y0_128)]) C dX9_publish_128 (Nat.lt_of_lt_of_eq (Nat.le_of_ble_eq_true rfl) hml) rfl ?_
              refine jv_aload_n C dX9_publish_129 rfl ?_
              refine jv_getr C kf_X9_52 sS_126 rfl dX9_publish_130 ?_
              refine jv_iload_n C dX9_publish_133 rfl ?_
              refine jv_aload_n C dX9_publish_134 rfl ?_
              refine jv_iload_n C dX9_publish_135 rfl ?_
              refine jv_iload_n C dX9_publish_136 rfl ?_
              refine jv_callVi C (M_X9_clueFor h) kw_X9_147 sS_126 rfl rfl ⟨rfl, rfl⟩ (st := [jv_i x2_79, .ref (s0.heap.size + (141 : Int).toNat)]) rfl rfl ⟨rfl, rfl⟩ dX9_publish_137 (fun r_137 g_137 h => ?_)
              obtain ⟨hb_140, h⟩ := h
              refine jv_iast C sS_141 rfl hb_140 dX9_publish_140 (jv_gm (fun g_140 eg_140 => ?_))
              replace h := h g_140 eg_140
              refine jv_aload_n C dX9_publish_141 rfl ?_
              refine jv_getr C kf_X9_52 sS_126 rfl dX9_publish_142 ?_
              refine jv_iload_n C dX9_publish_145 rfl ?_
              obtain ⟨hb_146, h⟩ := h
              refine jv_iald C sS_141 rfl hb_146 dX9_publish_146 ?_
              refine jv_const C dX9_publish_147 ?_
              have hJ156 : ∀ (y0_156 : Int) (gj_156 : jv_Mem), wB_X9_publish_156 K79 x2_79 y0_156 gj_156 → jv_V p l e (jv_rm 4 94 0 0) s m args below meth c 0 0 (jv_ZM below s0 D ids ex jv_SH (jv_qi Q) args s 0 0) s0 D ids ex jv_SH gj_156 156 [some (.ref (s0.heap.size + (126 : Int).toNat)), none, some (jv_i x2_79), none] [jv_i y0_156] := by
                intro y0_156 gj_156 h
                unfold wB_X9_publish_156 at h
                refine jv_istore_n (ls' := [some (.ref (s0.heap.size + (126 : Int).toNat)), some (jv_i y0_156), some (jv_i x2_79), none]) C dX9_publish_156 (Nat.lt_of_lt_of_eq (Nat.le_of_ble_eq_true rfl) hml) rfl ?_
                refine jv_iincn C dX9_publish_157 (Nat.lt_of_lt_of_eq (Nat.le_of_ble_eq_true rfl) hml) rfl (fun v2_157 ev2_157 => ?_)
                replace h := h v2_157 ev2_157
                refine jv_lset (ls' := [some (.ref (s0.heap.size + (126 : Int).toNat)), some (jv_i y0_156), some (jv_i v2_157), none]) rfl ?_
                refine jv_goto (tgt := 79) C dX9_publish_160 rfl ?_
                exact jv_less (ls' := [some (.ref (s0.heap.size + (126 : Int).toNat)), some (jv_i y0_156), some (jv_i v2_157), none]) ⟨rfl, ⟨rfl, ⟨rfl, trivial⟩⟩⟩ (hK79 _ _ _ h)
              obtain ⟨hr_148, h1_148, h2_148⟩ := h
              refine jv_icmp_eq (tgt := 155) C hr_148 ⟨by decide, by decide⟩ dX9_publish_148 rfl (fun hc_148 => ?_) (fun hc_148 => ?_)
              · replace h := h1_148 hc_148
                refine jv_const C dX9_publish_155 ?_
                exact jv_less (ls' := [some (.ref (s0.heap.size + (126 : Int).toNat)), none, some (jv_i x2_79), none]) ⟨rfl, ⟨rfl, trivial⟩⟩ (hJ156 _ _ h)
              · replace h := h2_148 hc_148
                refine jv_const C dX9_publish_151 ?_
                refine jv_goto (tgt := 156) C dX9_publish_152 rfl ?_
                exact jv_less (ls' := [some (.ref (s0.heap.size + (126 : Int).toNat)), none, some (jv_i x2_79), none]) ⟨rfl, ⟨rfl, trivial⟩⟩ (hJ156 _ _ h)
            obtain ⟨hr_91, h1_91, h2_91⟩ := h
            refine jv_icmp_ge (tgt := 103) C hr_91 ⟨by decide, by decide⟩ dX9_publish_91 rfl (fun hc_91 => ?_) (fun hc_91 => ?_)
            · replace h := h1_91 hc_91
              refine jv_aload_n C dX9_publish_103 rfl ?_
              refine jv_aload_n C dX9_publish_104 rfl ?_
              refine jv_getr C kf_X9_28 sS_126 rfl dX9_publish_105 ?_
              refine jv_const C dX9_publish_108 ?_
              obtain ⟨hb_109, h⟩ := h
              refine jv_iald C sS_133 rfl hb_109 dX9_publish_109 ?_
              refine jv_aload_n C dX9_publish_110 rfl ?_
              refine jv_getr C kf_X9_28 sS_126 rfl dX9_publish_111 ?_
              refine jv_const C dX9_publish_114 ?_
              obtain ⟨hb_115, h⟩ := h
              refine jv_iald C sS_133 rfl hb_115 dX9_publish_115 ?_
              refine jv_aload_n C dX9_publish_116 rfl ?_
              refine jv_getr C kf_X9_28 sS_126 rfl dX9_publish_117 ?_
              refine jv_const C dX9_publish_120 ?_
              obtain ⟨hb_121, h⟩ := h
              refine jv_iald C sS_133 rfl hb_121 dX9_publish_121 ?_
              refine jv_iload_n C dX9_publish_122 rfl ?_
              refine jv_const C dX9_publish_123 ?_
              refine jv_isub C dX9_publish_124 ?_
              refine jv_callVi C (M_X9_columnOf h) kw_X9_111 sS_126 rfl rfl ⟨rfl, rfl⟩ (st := []) rfl rfl ⟨rfl, rfl⟩ dX9_publish_125 (fun r_125 g_125 h => ?_)
              exact jv_less (ls' := [some (.ref (s0.heap.size + (126 : Int).toNat)), none, some (jv_i x2_79), none]) ⟨rfl, ⟨rfl, trivial⟩⟩ (hJ128 _ _ h)
            · replace h := h2_91 hc_91
              refine jv_aload_n C dX9_publish_94 rfl ?_
              refine jv_getr C kf_X9_28 sS_126 rfl dX9_publish_95 ?_
              refine jv_iload_n C dX9_publish_98 rfl ?_
              obtain ⟨hb_99, h⟩ := h
              refine jv_iald C sS_133 rfl hb_99 dX9_publish_99 ?_
              refine jv_goto (tgt := 128) C dX9_publish_100 rfl ?_
              exact jv_less (ls' := [some (.ref (s0.heap.size + (126 : Int).toNat)), none, some (jv_i x2_79), none]) ⟨rfl, ⟨rfl, trivial⟩⟩ (hJ128 _ _ h)
      have hJ75 : ∀ (gj_75 : jv_Mem), wB_X9_publish_75 Q gj_75 → jv_V p l e (jv_rm 4 94 0 0) s m args below meth c 0 0 (jv_ZM below s0 D ids ex jv_SH (jv_qi Q) args s 0 0) s0 D ids ex jv_SH gj_75 75 [some (.ref (s0.heap.size + (126 : Int).toNat)), none, none, none] [] := by
        intro gj_75 h
        unfold wB_X9_publish_75 at h
        refine jv_const C dX9_publish_75 ?_
        exact jv_less (ls' := [some (.ref (s0.heap.size + (126 : Int).toNat)), none, none, none]) ⟨rfl, trivial⟩ (hJ76 _ _ h)
      obtain ⟨hr_60, h1_60, h2_60⟩ := h
      refine jv_if_eq (tgt := 75) C hr_60 dX9_publish_60 rfl (fun hc_60 => ?_) (fun hc_60 => ?_)
      · replace h := h1_60 hc_60
        exact jv_less (ls' := [some (.ref (s0.heap.size + (126 : Int).toNat)), none, none, none]) ⟨rfl, trivial⟩ (hJ75 _ h)
      · replace h := h2_60 hc_60
        refine jv_aload_n C dX9_publish_63 rfl ?_
        refine jv_geti C kf_X9_118 sS_126 rfl dX9_publish_64 ?_
        refine jv_const C dX9_publish_67 ?_
        obtain ⟨hr_68, h1_68, h2_68⟩ := h
        refine jv_icmp_eq (tgt := 75) C hr_68 ⟨by decide, by decide⟩ dX9_publish_68 rfl (fun hc_68 => ?_) (fun hc_68 => ?_)
        · replace h := h1_68 hc_68
          exact jv_less (ls' := [some (.ref (s0.heap.size + (126 : Int).toNat)), none, none, none]) ⟨rfl, trivial⟩ (hJ75 _ h)
        · replace h := h2_68 hc_68
          refine jv_const C dX9_publish_71 ?_
          refine jv_goto (tgt := 76) C dX9_publish_72 rfl ?_
          exact jv_less (ls' := [some (.ref (s0.heap.size + (126 : Int).toNat)), none, none, none]) ⟨rfl, trivial⟩ (hJ76 _ _ h)
    obtain ⟨hr_52, h1_52, h2_52⟩ := h
    refine jv_if_eq (tgt := 59) C hr_52 dX9_publish_52 rfl (fun hc_52 => ?_) (fun hc_52 => ?_)
    · replace h := h1_52 hc_52
      exact jv_less (ls' := [some (.ref (s0.heap.size + (126 : Int).toNat)), some (jv_i y0_50), none, none]) ⟨rfl, ⟨rfl, trivial⟩⟩ (hJ59 _ h)
    · replace h := h2_52 hc_52
      refine jv_aload_n C dX9_publish_55 rfl ?_
      refine jv_callVv C (M_X9_findsFills h) kw_X9_129 sS_126 rfl rfl ⟨rfl, rfl⟩ (st := []) rfl rfl ⟨rfl, rfl⟩ dX9_publish_56 (fun g_56 h => ?_)
      exact jv_less (ls' := [some (.ref (s0.heap.size + (126 : Int).toNat)), some (jv_i y0_50), none, none]) ⟨rfl, ⟨rfl, trivial⟩⟩ (hJ59 _ h)
  have hJ49 : ∀ (gj_49 : jv_Mem), wB_X9_publish_49 Q gj_49 → jv_V p l e (jv_rm 4 94 0 0) s m args below meth c 0 0 (jv_ZM below s0 D ids ex jv_SH (jv_qi Q) args s 0 0) s0 D ids ex jv_SH gj_49 49 [some (.ref (s0.heap.size + (126 : Int).toNat)), none, none, none] [] := by
    intro gj_49 h
    unfold wB_X9_publish_49 at h
    refine jv_const C dX9_publish_49 ?_
    exact jv_less (ls' := [some (.ref (s0.heap.size + (126 : Int).toNat)), none, none, none]) ⟨rfl, trivial⟩ (hJ50 _ _ h)
  obtain ⟨hr_11, h1_11, h2_11⟩ := h
  refine jv_icmp_ge (tgt := 49) C hr_11 ⟨by decide, by decide⟩ dX9_publish_11 rfl (fun hc_11 => ?_) (fun hc_11 => ?_)
  · replace h := h1_11 hc_11
    exact jv_less (ls' := [some (.ref (s0.heap.size + (126 : Int).toNat)), none, none, none]) ⟨rfl, trivial⟩ (hJ49 _ h)
  · replace h := h2_11 hc_11
    refine jv_aload_n C dX9_publish_14 rfl ?_
    refine jv_geti C kf_X9_144 sS_126 rfl dX9_publish_15 ?_
    have hJ45 : ∀ (gj_45 : jv_Mem), wB_X9_publish_45 Q gj_45 → jv_V p l e (jv_rm 4 94 0 0) s m args below meth c 0 0 (jv_ZM below s0 D ids ex jv_SH (jv_qi Q) args s 0 0) s0 D ids ex jv_SH gj_45 45 [some (.ref (s0.heap.size + (126 : Int).toNat)), none, none, none] [] := by
      intro gj_45 h
      unfold wB_X9_publish_45 at h
      refine jv_const C dX9_publish_45 ?_
      refine jv_goto (tgt := 50) C dX9_publish_46 rfl ?_
      exact jv_less (ls' := [some (.ref (s0.heap.size + (126 : Int).toNat)), none, none, none]) ⟨rfl, trivial⟩ (hJ50 _ _ h)
    obtain ⟨hr_18, h1_18, h2_18⟩ := h
    refine jv_if_eq (tgt := 45) C hr_18 dX9_publish_18 rfl (fun hc_18 => ?_) (fun hc_18 => ?_)
    · replace h := h1_18 hc_18
      exact jv_less (ls' := [some (.ref (s0.heap.size + (126 : Int).toNat)), none, none, none]) ⟨rfl, trivial⟩ (hJ45 _ h)
    · replace h := h2_18 hc_18
      refine jv_aload_n C dX9_publish_21 rfl ?_
      refine jv_getr C kf_X9_40 sS_126 rfl dX9_publish_22 ?_
      refine jv_aload_n C dX9_publish_25 rfl ?_
      refine jv_geti C kf_X9_144 sS_126 rfl dX9_publish_26 ?_
      refine jv_const C dX9_publish_29 ?_
      refine jv_isub C dX9_publish_30 ?_
      obtain ⟨hb_31, h⟩ := h
      refine jv_iald C sS_137 rfl hb_31 dX9_publish_31 ?_
      refine jv_bipush C dX9_publish_32 (by decide +kernel) ?_
      refine jv_idiv C (by decide +kernel) dX9_publish_34 ?_
      refine jv_aload_n C dX9_publish_35 rfl ?_
      refine jv_geti C kf_X9_141 sS_126 rfl dX9_publish_36 ?_
      refine jv_bipush C dX9_publish_39 (by decide +kernel) ?_
      refine jv_idiv C (by decide +kernel) dX9_publish_41 ?_
      obtain ⟨hr_42, h1_42, h2_42⟩ := h
      refine jv_icmp_eq (tgt := 49) C hr_42.1 hr_42.2 dX9_publish_42 rfl (fun hc_42 => ?_) (fun hc_42 => ?_)
      · replace h := h1_42 hc_42
        exact jv_less (ls' := [some (.ref (s0.heap.size + (126 : Int).toNat)), none, none, none]) ⟨rfl, trivial⟩ (hJ49 _ h)
      · replace h := h2_42 hc_42
        exact jv_less (ls' := [some (.ref (s0.heap.size + (126 : Int).toNat)), none, none, none]) ⟨rfl, trivial⟩ (hJ45 _ h)

def wp_X9_isPuzzle (a1 : Int) (Q : Int → jv_Mem → Prop) (g : jv_Mem) : Prop :=
  (wp_X9_in a1 0 ((g 126 16) - 1) (fun (r_8 : Int) (g_8 : jv_Mem) => ((r_8 = 0 ∨ r_8 = 1) ∧ Q r_8 g_8)) g)
set_option maxHeartbeats 4000000 in
set_option maxRecDepth 100000 in
theorem M_X9_isPuzzle {l : Launch} {s0 : State} {b0 : Addr} {D : va_G} {ids : Nat → ClassId} {ex : Option Nat} {g : jv_Mem} {a1 : Int} {Q : Int → jv_Mem → Prop} (h : wp_X9_isPuzzle a1 Q g) : jv_M l s0 b0 D ids yX9_isPuzzle cX9_isPuzzle 2 (some .boolean) 1 22 0 0 ex jv_SH g [.ref (s0.heap.size + (126 : Int).toNat), jv_i a1] ex jv_SH (jv_qi Q) := by
  refine jv_M.of (by decide +kernel) rfl rfl (fun p e s m args below meth c C hml hr hlk hnm => ?_)
  replace C : jv_C p s m args c cX9_isPuzzle RX9 s0 b0 D ids := C
  show jv_V p l e (jv_rm 1 22 0 0) s m args below meth c 0 0 (jv_ZM below s0 D ids ex jv_SH (jv_qi Q) args s 0 0) s0 D ids ex jv_SH g 0 [some (.ref (s0.heap.size + (126 : Int).toNat)), some (jv_i a1)] []
  unfold wp_X9_isPuzzle at h
  refine jv_iload_n C dX9_isPuzzle_0 rfl ?_
  refine jv_const C dX9_isPuzzle_1 ?_
  refine jv_aload_n C dX9_isPuzzle_2 rfl ?_
  refine jv_geti C kf_X9_144 sS_126 rfl dX9_isPuzzle_3 ?_
  refine jv_const C dX9_isPuzzle_6 ?_
  refine jv_isub C dX9_isPuzzle_7 ?_
  refine jv_callSi C (M_X9_in h) kw_X9_80 rfl ⟨rfl, rfl⟩ (st := []) rfl rfl ⟨rfl, rfl⟩ dX9_isPuzzle_8 (fun r_8 g_8 h => ?_)
  obtain ⟨hz_11, h⟩ := h
  exact jv_zret C hr hlk (jv_nz hz_11) ⟨_, rfl, h⟩ dX9_isPuzzle_11 ⟨rfl, rfl⟩

def wB_X9_clueOf_23 (a1 : Int) (a2 : Int) (Q : Int → jv_Mem → Prop) (y0_23 : Int) (gj_23 : jv_Mem) : Prop :=
  (∀ g_23 : jv_Mem, g_23 = jv_up gj_23 126 29 y0_23 → ((jv_r (g_23 126 29)) ∧ (¬ (g_23 126 29) = 0 → Q 0 g_23) ∧ ((g_23 126 29) = 0 → (((0 : Int) ≤ (6 * a1) + a2 ∧ (6 * a1) + a2 < (120 : Int)) ∧ Q (g_23 139 ((6 * a1) + a2)) g_23))))
def wB_X9_clueOf_22 (a1 : Int) (a2 : Int) (Q : Int → jv_Mem → Prop) (gj_22 : jv_Mem) : Prop :=
  wB_X9_clueOf_23 a1 a2 Q 1 gj_22
def wp_X9_clueOf (a1 : Int) (a2 : Int) (Q : Int → jv_Mem → Prop) (g : jv_Mem) : Prop :=
  (wp_X9_isPuzzle a1 (fun (r_3 : Int) (g_3 : jv_Mem) => ((jv_r r_3) ∧ (r_3 = 0 → wB_X9_clueOf_22 a1 a2 Q g_3) ∧ (¬ r_3 = 0 → (wp_X9_in a2 0 5 (fun (r_12 : Int) (g_12 : jv_Mem) => ((jv_r r_12) ∧ (r_12 = 0 → wB_X9_clueOf_22 a1 a2 Q g_12) ∧ (¬ r_12 = 0 → wB_X9_clueOf_23 a1 a2 Q 0 g_12))) g_3)))) g)
set_option maxHeartbeats 4000000 in
set_option maxRecDepth 100000 in
theorem M_X9_clueOf {l : Launch} {s0 : State} {b0 : Addr} {D : va_G} {ids : Nat → ClassId} {ex : Option Nat} {g : jv_Mem} {a1 : Int} {a2 : Int} {Q : Int → jv_Mem → Prop} (h : wp_X9_clueOf a1 a2 Q g) : jv_M l s0 b0 D ids yX9_clueOf cX9_clueOf 3 (some .int) 2 43 0 0 ex jv_SH g [.ref (s0.heap.size + (126 : Int).toNat), jv_i a1, jv_i a2] ex jv_SH (jv_qi Q) := by
  refine jv_M.of (by decide +kernel) rfl rfl (fun p e s m args below meth c C hml hr hlk hnm => ?_)
  replace C : jv_C p s m args c cX9_clueOf RX9 s0 b0 D ids := C
  show jv_V p l e (jv_rm 2 43 0 0) s m args below meth c 0 0 (jv_ZM below s0 D ids ex jv_SH (jv_qi Q) args s 0 0) s0 D ids ex jv_SH g 0 [some (.ref (s0.heap.size + (126 : Int).toNat)), some (jv_i a1), some (jv_i a2)] []
  unfold wp_X9_clueOf at h
  refine jv_aload_n C dX9_clueOf_0 rfl ?_
  refine jv_aload_n C dX9_clueOf_1 rfl ?_
  refine jv_iload_n C dX9_clueOf_2 rfl ?_
  refine jv_callVi C (M_X9_isPuzzle h) kw_X9_150 sS_126 rfl rfl ⟨rfl, rfl⟩ (st := [.ref (s0.heap.size + (126 : Int).toNat)]) rfl rfl ⟨rfl, rfl⟩ dX9_clueOf_3 (fun r_3 g_3 h => ?_)
  have hJ23 : ∀ (y0_23 : Int) (gj_23 : jv_Mem), wB_X9_clueOf_23 a1 a2 Q y0_23 gj_23 → jv_V p l e (jv_rm 2 43 0 0) s m args below meth c 0 0 (jv_ZM below s0 D ids ex jv_SH (jv_qi Q) args s 0 0) s0 D ids ex jv_SH gj_23 23 [some (.ref (s0.heap.size + (126 : Int).toNat)), some (jv_i a1), some (jv_i a2)] [jv_i y0_23, .ref (s0.heap.size + (126 : Int).toNat)] := by
    intro y0_23 gj_23 h
    unfold wB_X9_clueOf_23 at h
    refine jv_puti C kf_X9_73 sS_126 rfl dX9_clueOf_23 (jv_gm (fun g_23 eg_23 => ?_))
    replace h := h g_23 eg_23
    refine jv_aload_n C dX9_clueOf_26 rfl ?_
    refine jv_geti C kf_X9_73 sS_126 rfl dX9_clueOf_27 ?_
    obtain ⟨hr_30, h1_30, h2_30⟩ := h
    refine jv_if_ne (tgt := 47) C hr_30 dX9_clueOf_30 rfl (fun hc_30 => ?_) (fun hc_30 => ?_)
    · replace h := h1_30 hc_30
      refine jv_const C dX9_clueOf_47 ?_
      exact jv_iret C hr hlk ⟨_, rfl, h⟩ dX9_clueOf_48 ⟨rfl, rfl⟩
    · replace h := h2_30 hc_30
      refine jv_aload_n C dX9_clueOf_33 rfl ?_
      refine jv_getr C kf_X9_46 sS_126 rfl dX9_clueOf_34 ?_
      refine jv_bipush C dX9_clueOf_37 (by decide +kernel) ?_
      refine jv_iload_n C dX9_clueOf_39 rfl ?_
      refine jv_imul C dX9_clueOf_40 ?_
      refine jv_iload_n C dX9_clueOf_41 rfl ?_
      refine jv_iadd C dX9_clueOf_42 ?_
      obtain ⟨hb_43, h⟩ := h
      refine jv_iald C sS_139 rfl hb_43 dX9_clueOf_43 ?_
      refine jv_goto (tgt := 48) C dX9_clueOf_44 rfl ?_
      exact jv_iret C hr hlk ⟨_, rfl, h⟩ dX9_clueOf_48 ⟨rfl, rfl⟩
  have hJ22 : ∀ (gj_22 : jv_Mem), wB_X9_clueOf_22 a1 a2 Q gj_22 → jv_V p l e (jv_rm 2 43 0 0) s m args below meth c 0 0 (jv_ZM below s0 D ids ex jv_SH (jv_qi Q) args s 0 0) s0 D ids ex jv_SH gj_22 22 [some (.ref (s0.heap.size + (126 : Int).toNat)), some (jv_i a1), some (jv_i a2)] [.ref (s0.heap.size + (126 : Int).toNat)] := by
    intro gj_22 h
    unfold wB_X9_clueOf_22 at h
    refine jv_const C dX9_clueOf_22 ?_
    exact jv_less (ls' := [some (.ref (s0.heap.size + (126 : Int).toNat)), some (jv_i a1), some (jv_i a2)]) ⟨rfl, ⟨rfl, ⟨rfl, trivial⟩⟩⟩ (hJ23 _ _ h)
  obtain ⟨hr_6, h1_6, h2_6⟩ := h
  refine jv_if_eq (tgt := 22) C hr_6 dX9_clueOf_6 rfl (fun hc_6 => ?_) (fun hc_6 => ?_)
  · replace h := h1_6 hc_6
    exact jv_less (ls' := [some (.ref (s0.heap.size + (126 : Int).toNat)), some (jv_i a1), some (jv_i a2)]) ⟨rfl, ⟨rfl, ⟨rfl, trivial⟩⟩⟩ (hJ22 _ h)
  · replace h := h2_6 hc_6
    refine jv_iload_n C dX9_clueOf_9 rfl ?_
    refine jv_const C dX9_clueOf_10 ?_
    refine jv_const C dX9_clueOf_11 ?_
    refine jv_callSi C (M_X9_in h) kw_X9_80 rfl ⟨rfl, rfl⟩ (st := [.ref (s0.heap.size + (126 : Int).toNat)]) rfl rfl ⟨rfl, rfl⟩ dX9_clueOf_12 (fun r_12 g_12 h => ?_)
    obtain ⟨hr_15, h1_15, h2_15⟩ := h
    refine jv_if_eq (tgt := 22) C hr_15 dX9_clueOf_15 rfl (fun hc_15 => ?_) (fun hc_15 => ?_)
    · replace h := h1_15 hc_15
      exact jv_less (ls' := [some (.ref (s0.heap.size + (126 : Int).toNat)), some (jv_i a1), some (jv_i a2)]) ⟨rfl, ⟨rfl, ⟨rfl, trivial⟩⟩⟩ (hJ22 _ h)
    · replace h := h2_15 hc_15
      refine jv_const C dX9_clueOf_18 ?_
      refine jv_goto (tgt := 23) C dX9_clueOf_19 rfl ?_
      exact jv_less (ls' := [some (.ref (s0.heap.size + (126 : Int).toNat)), some (jv_i a1), some (jv_i a2)]) ⟨rfl, ⟨rfl, ⟨rfl, trivial⟩⟩⟩ (hJ23 _ _ h)

def wB_X9_addSolver_41 (a1 : Int) (a2 : Int) (Q : Int → jv_Mem → Prop) (y0_41 : Int) (gj_41 : jv_Mem) : Prop :=
  (∀ g_41 : jv_Mem, g_41 = jv_up gj_41 126 29 y0_41 → ((jv_r (g_41 126 29)) ∧ ((g_41 126 29) ≤ 0 → (((0 : Int) ≤ g_41 126 22 ∧ g_41 126 22 < (6 : Int)) ∧ (∀ g_62 : jv_Mem, g_62 = jv_up g_41 142 (g_41 126 22) a1 → (((0 : Int) ≤ g_62 126 22 ∧ g_62 126 22 < (6 : Int)) ∧ (∀ g_72 : jv_Mem, g_72 = jv_up g_62 143 (g_62 126 22) a2 → (∀ g_80 : jv_Mem, g_80 = jv_up g_72 126 22 ((g_72 126 22) + 1) → Q ((g_80 126 22) - 1) g_80)))))) ∧ (0 < (g_41 126 29) → Q 0 g_41)))
def wB_X9_addSolver_23 (a1 : Int) (a2 : Int) (Q : Int → jv_Mem → Prop) (gj_23 : jv_Mem) : Prop :=
  wB_X9_addSolver_41 a1 a2 Q 1 gj_23
def wp_X9_addSolver (a1 : Int) (a2 : Int) (Q : Int → jv_Mem → Prop) (g : jv_Mem) : Prop :=
  (wp_X9_in a1 ((-12)) 14 (fun (r_6 : Int) (g_6 : jv_Mem) => ((jv_r r_6) ∧ (r_6 = 0 → wB_X9_addSolver_23 a1 a2 Q g_6) ∧ (¬ r_6 = 0 → (wp_X9_in a2 0 1000 (fun (r_17 : Int) (g_17 : jv_Mem) => ((jv_r r_17) ∧ (¬ r_17 = 0 → ((jv_r (g_17 126 22)) ∧ (¬ (g_17 126 22) = 6 → wB_X9_addSolver_41 a1 a2 Q 0 g_17) ∧ ((g_17 126 22) = 6 → wB_X9_addSolver_41 a1 a2 Q 2 g_17))) ∧ (r_17 = 0 → wB_X9_addSolver_23 a1 a2 Q g_17))) g_6)))) g)
set_option maxHeartbeats 4000000 in
set_option maxRecDepth 100000 in
theorem M_X9_addSolver {l : Launch} {s0 : State} {b0 : Addr} {D : va_G} {ids : Nat → ClassId} {ex : Option Nat} {g : jv_Mem} {a1 : Int} {a2 : Int} {Q : Int → jv_Mem → Prop} (h : wp_X9_addSolver a1 a2 Q g) : jv_M l s0 b0 D ids yX9_addSolver cX9_addSolver 3 (some .int) 1 22 0 0 ex jv_SH g [.ref (s0.heap.size + (126 : Int).toNat), jv_i a1, jv_i a2] ex jv_SH (jv_qi Q) := by
  refine jv_M.of (by decide +kernel) rfl rfl (fun p e s m args below meth c C hml hr hlk hnm => ?_)
  replace C : jv_C p s m args c cX9_addSolver RX9 s0 b0 D ids := C
  show jv_V p l e (jv_rm 1 22 0 0) s m args below meth c 0 0 (jv_ZM below s0 D ids ex jv_SH (jv_qi Q) args s 0 0) s0 D ids ex jv_SH g 0 [some (.ref (s0.heap.size + (126 : Int).toNat)), some (jv_i a1), some (jv_i a2)] []
  unfold wp_X9_addSolver at h
  refine jv_aload_n C dX9_addSolver_0 rfl ?_
  refine jv_iload_n C dX9_addSolver_1 rfl ?_
  refine jv_bipush C dX9_addSolver_2 (by decide +kernel) ?_
  refine jv_bipush C dX9_addSolver_4 (by decide +kernel) ?_
  refine jv_callSi C (M_X9_in h) kw_X9_80 rfl ⟨rfl, rfl⟩ (st := [.ref (s0.heap.size + (126 : Int).toNat)]) rfl rfl ⟨rfl, rfl⟩ dX9_addSolver_6 (fun r_6 g_6 h => ?_)
  have hJ41 : ∀ (y0_41 : Int) (gj_41 : jv_Mem), wB_X9_addSolver_41 a1 a2 Q y0_41 gj_41 → jv_V p l e (jv_rm 1 22 0 0) s m args below meth c 0 0 (jv_ZM below s0 D ids ex jv_SH (jv_qi Q) args s 0 0) s0 D ids ex jv_SH gj_41 41 [some (.ref (s0.heap.size + (126 : Int).toNat)), some (jv_i a1), some (jv_i a2)] [jv_i y0_41, .ref (s0.heap.size + (126 : Int).toNat)] := by
    intro y0_41 gj_41 h
    unfold wB_X9_addSolver_41 at h
    refine jv_puti C kf_X9_73 sS_126 rfl dX9_addSolver_41 (jv_gm (fun g_41 eg_41 => ?_))
    replace h := h g_41 eg_41
    refine jv_aload_n C dX9_addSolver_44 rfl ?_
    refine jv_geti C kf_X9_73 sS_126 rfl dX9_addSolver_45 ?_
    obtain ⟨hr_48, h1_48, h2_48⟩ := h
    refine jv_if_le (tgt := 53) C hr_48 dX9_addSolver_48 rfl (fun hc_48 => ?_) (fun hc_48 => ?_)
    · replace h := h1_48 hc_48
      refine jv_aload_n C dX9_addSolver_53 rfl ?_
      refine jv_getr C kf_X9_55 sS_126 rfl dX9_addSolver_54 ?_
      refine jv_aload_n C dX9_addSolver_57 rfl ?_
      refine jv_geti C kf_X9_153 sS_126 rfl dX9_addSolver_58 ?_
      refine jv_iload_n C dX9_addSolver_61 rfl ?_
      obtain ⟨hb_62, h⟩ := h
      refine jv_iast C sS_142 rfl hb_62 dX9_addSolver_62 (jv_gm (fun g_62 eg_62 => ?_))
      replace h := h g_62 eg_62
      refine jv_aload_n C dX9_addSolver_63 rfl ?_
      refine jv_getr C kf_X9_58 sS_126 rfl dX9_addSolver_64 ?_
      refine jv_aload_n C dX9_addSolver_67 rfl ?_
      refine jv_geti C kf_X9_153 sS_126 rfl dX9_addSolver_68 ?_
      refine jv_iload_n C dX9_addSolver_71 rfl ?_
      obtain ⟨hb_72, h⟩ := h
      refine jv_iast C sS_143 rfl hb_72 dX9_addSolver_72 (jv_gm (fun g_72 eg_72 => ?_))
      replace h := h g_72 eg_72
      refine jv_aload_n C dX9_addSolver_73 rfl ?_
      refine jv_dup C rfl dX9_addSolver_74 ?_
      refine jv_geti C kf_X9_153 sS_126 rfl dX9_addSolver_75 ?_
      refine jv_const C dX9_addSolver_78 ?_
      refine jv_iadd C dX9_addSolver_79 ?_
      refine jv_puti C kf_X9_153 sS_126 rfl dX9_addSolver_80 (jv_gm (fun g_80 eg_80 => ?_))
      replace h := h g_80 eg_80
      refine jv_aload_n C dX9_addSolver_83 rfl ?_
      refine jv_geti C kf_X9_153 sS_126 rfl dX9_addSolver_84 ?_
      refine jv_const C dX9_addSolver_87 ?_
      refine jv_isub C dX9_addSolver_88 ?_
      exact jv_iret C hr hlk ⟨_, rfl, h⟩ dX9_addSolver_89 ⟨rfl, rfl⟩
    · replace h := h2_48 hc_48
      refine jv_const C dX9_addSolver_51 ?_
      exact jv_iret C hr hlk ⟨_, rfl, h⟩ dX9_addSolver_52 ⟨rfl, rfl⟩
  have hJ23 : ∀ (gj_23 : jv_Mem), wB_X9_addSolver_23 a1 a2 Q gj_23 → jv_V p l e (jv_rm 1 22 0 0) s m args below meth c 0 0 (jv_ZM below s0 D ids ex jv_SH (jv_qi Q) args s 0 0) s0 D ids ex jv_SH gj_23 23 [some (.ref (s0.heap.size + (126 : Int).toNat)), some (jv_i a1), some (jv_i a2)] [.ref (s0.heap.size + (126 : Int).toNat)] := by
    intro gj_23 h
    unfold wB_X9_addSolver_23 at h
    refine jv_const C dX9_addSolver_23 ?_
    refine jv_goto (tgt := 41) C dX9_addSolver_24 rfl ?_
    exact jv_less (ls' := [some (.ref (s0.heap.size + (126 : Int).toNat)), some (jv_i a1), some (jv_i a2)]) ⟨rfl, ⟨rfl, ⟨rfl, trivial⟩⟩⟩ (hJ41 _ _ h)
  obtain ⟨hr_9, h1_9, h2_9⟩ := h
  refine jv_if_eq (tgt := 23) C hr_9 dX9_addSolver_9 rfl (fun hc_9 => ?_) (fun hc_9 => ?_)
  · replace h := h1_9 hc_9
    exact jv_less (ls' := [some (.ref (s0.heap.size + (126 : Int).toNat)), some (jv_i a1), some (jv_i a2)]) ⟨rfl, ⟨rfl, ⟨rfl, trivial⟩⟩⟩ (hJ23 _ h)
  · replace h := h2_9 hc_9
    refine jv_iload_n C dX9_addSolver_12 rfl ?_
    refine jv_const C dX9_addSolver_13 ?_
    refine jv_sipush C dX9_addSolver_14 (by decide +kernel) ?_
    refine jv_callSi C (M_X9_in h) kw_X9_80 rfl ⟨rfl, rfl⟩ (st := [.ref (s0.heap.size + (126 : Int).toNat)]) rfl rfl ⟨rfl, rfl⟩ dX9_addSolver_17 (fun r_17 g_17 h => ?_)
    obtain ⟨hr_20, h1_20, h2_20⟩ := h
    refine jv_if_ne (tgt := 27) C hr_20 dX9_addSolver_20 rfl (fun hc_20 => ?_) (fun hc_20 => ?_)
    · replace h := h1_20 hc_20
      refine jv_aload_n C dX9_addSolver_27 rfl ?_
      refine jv_geti C kf_X9_153 sS_126 rfl dX9_addSolver_28 ?_
      refine jv_bipush C dX9_addSolver_31 (by decide +kernel) ?_
      obtain ⟨hr_33, h1_33, h2_33⟩ := h
      refine jv_icmp_ne (tgt := 40) C hr_33 ⟨by decide, by decide⟩ dX9_addSolver_33 rfl (fun hc_33 => ?_) (fun hc_33 => ?_)
      · replace h := h1_33 hc_33
        refine jv_const C dX9_addSolver_40 ?_
        exact jv_less (ls' := [some (.ref (s0.heap.size + (126 : Int).toNat)), some (jv_i a1), some (jv_i a2)]) ⟨rfl, ⟨rfl, ⟨rfl, trivial⟩⟩⟩ (hJ41 _ _ h)
      · replace h := h2_33 hc_33
        refine jv_const C dX9_addSolver_36 ?_
        refine jv_goto (tgt := 41) C dX9_addSolver_37 rfl ?_
        exact jv_less (ls' := [some (.ref (s0.heap.size + (126 : Int).toNat)), some (jv_i a1), some (jv_i a2)]) ⟨rfl, ⟨rfl, ⟨rfl, trivial⟩⟩⟩ (hJ41 _ _ h)
    · replace h := h2_20 hc_20
      exact jv_less (ls' := [some (.ref (s0.heap.size + (126 : Int).toNat)), some (jv_i a1), some (jv_i a2)]) ⟨rfl, ⟨rfl, ⟨rfl, trivial⟩⟩⟩ (hJ23 _ h)

def wp_X9_isSolver (a1 : Int) (Q : Int → jv_Mem → Prop) (g : jv_Mem) : Prop :=
  (wp_X9_in a1 0 ((g 126 22) - 1) (fun (r_8 : Int) (g_8 : jv_Mem) => ((r_8 = 0 ∨ r_8 = 1) ∧ Q r_8 g_8)) g)
set_option maxHeartbeats 4000000 in
set_option maxRecDepth 100000 in
theorem M_X9_isSolver {l : Launch} {s0 : State} {b0 : Addr} {D : va_G} {ids : Nat → ClassId} {ex : Option Nat} {g : jv_Mem} {a1 : Int} {Q : Int → jv_Mem → Prop} (h : wp_X9_isSolver a1 Q g) : jv_M l s0 b0 D ids yX9_isSolver cX9_isSolver 2 (some .boolean) 1 22 0 0 ex jv_SH g [.ref (s0.heap.size + (126 : Int).toNat), jv_i a1] ex jv_SH (jv_qi Q) := by
  refine jv_M.of (by decide +kernel) rfl rfl (fun p e s m args below meth c C hml hr hlk hnm => ?_)
  replace C : jv_C p s m args c cX9_isSolver RX9 s0 b0 D ids := C
  show jv_V p l e (jv_rm 1 22 0 0) s m args below meth c 0 0 (jv_ZM below s0 D ids ex jv_SH (jv_qi Q) args s 0 0) s0 D ids ex jv_SH g 0 [some (.ref (s0.heap.size + (126 : Int).toNat)), some (jv_i a1)] []
  unfold wp_X9_isSolver at h
  refine jv_iload_n C dX9_isSolver_0 rfl ?_
  refine jv_const C dX9_isSolver_1 ?_
  refine jv_aload_n C dX9_isSolver_2 rfl ?_
  refine jv_geti C kf_X9_153 sS_126 rfl dX9_isSolver_3 ?_
  refine jv_const C dX9_isSolver_6 ?_
  refine jv_isub C dX9_isSolver_7 ?_
  refine jv_callSi C (M_X9_in h) kw_X9_80 rfl ⟨rfl, rfl⟩ (st := []) rfl rfl ⟨rfl, rfl⟩ dX9_isSolver_8 (fun r_8 g_8 h => ?_)
  obtain ⟨hz_11, h⟩ := h
  exact jv_zret C hr hlk (jv_nz hz_11) ⟨_, rfl, h⟩ dX9_isSolver_11 ⟨rfl, rfl⟩

def wp_X9_dayOf (a1 : Int) (a2 : Int) (Q : Int → jv_Mem → Prop) (g : jv_Mem) : Prop :=
  (((0 : Int) ≤ a1 ∧ a1 < (6 : Int)) ∧ Q (jv_div ((a2 + (g 142 a1)) + 24) 24) g)
set_option maxHeartbeats 4000000 in
set_option maxRecDepth 100000 in
theorem M_X9_dayOf {l : Launch} {s0 : State} {b0 : Addr} {D : va_G} {ids : Nat → ClassId} {ex : Option Nat} {g : jv_Mem} {a1 : Int} {a2 : Int} {Q : Int → jv_Mem → Prop} (h : wp_X9_dayOf a1 a2 Q g) : jv_M l s0 b0 D ids yX9_dayOf cX9_dayOf 3 (some .int) 0 0 0 0 ex jv_SH g [.ref (s0.heap.size + (126 : Int).toNat), jv_i a1, jv_i a2] ex jv_SH (jv_qi Q) := by
  refine jv_M.of (by decide +kernel) rfl rfl (fun p e s m args below meth c C hml hr hlk hnm => ?_)
  replace C : jv_C p s m args c cX9_dayOf RX9 s0 b0 D ids := C
  show jv_V p l e (jv_rm 0 0 0 0) s m args below meth c 0 0 (jv_ZM below s0 D ids ex jv_SH (jv_qi Q) args s 0 0) s0 D ids ex jv_SH g 0 [some (.ref (s0.heap.size + (126 : Int).toNat)), some (jv_i a1), some (jv_i a2)] []
  unfold wp_X9_dayOf at h
  refine jv_iload_n C dX9_dayOf_0 rfl ?_
  refine jv_aload_n C dX9_dayOf_1 rfl ?_
  refine jv_getr C kf_X9_55 sS_126 rfl dX9_dayOf_2 ?_
  refine jv_iload_n C dX9_dayOf_5 rfl ?_
  obtain ⟨hb_6, h⟩ := h
  refine jv_iald C sS_142 rfl hb_6 dX9_dayOf_6 ?_
  refine jv_iadd C dX9_dayOf_7 ?_
  refine jv_bipush C dX9_dayOf_8 (by decide +kernel) ?_
  refine jv_iadd C dX9_dayOf_10 ?_
  refine jv_bipush C dX9_dayOf_11 (by decide +kernel) ?_
  refine jv_idiv C (by decide +kernel) dX9_dayOf_13 ?_
  exact jv_iret C hr hlk ⟨_, rfl, h⟩ dX9_dayOf_14 ⟨rfl, rfl⟩

def wB_X9_openOf_61 (K4 : Int → Int → jv_Mem → Prop) (x2_4 : Int) (x3_4 : Int) (y0_61 : Int) (gj_61 : jv_Mem) : Prop :=
  (∀ v2_62 : Int, v2_62 = jv_or x2_4 y0_61 → (∀ v3_63 : Int, v3_63 = x3_4 + 1 → K4 v2_62 v3_63 gj_61))
def wB_X9_openOf_29 (K4 : Int → Int → jv_Mem → Prop) (x2_4 : Int) (x3_4 : Int) (y0_29 : Int) (gj_29 : jv_Mem) : Prop :=
  ((jv_r y0_29) ∧ (¬ y0_29 = 0 → ((jv_r x3_4) ∧ (3 ≤ x3_4 → wB_X9_openOf_61 K4 x2_4 x3_4 (jv_shl 73 (x3_4 - 3)) gj_29) ∧ (x3_4 < 3 → wB_X9_openOf_61 K4 x2_4 x3_4 (jv_shl 7 (3 * x3_4)) gj_29))) ∧ (y0_29 = 0 → wB_X9_openOf_61 K4 x2_4 x3_4 0 gj_29))
def wp_X9_openOf (a1 : Int) (Q : Int → jv_Mem → Prop) (g : jv_Mem) : Prop :=
  jv_lp2 (fun (K4 : Int → Int → jv_Mem → Prop) (x2_4 x3_4 : Int) (gl_4 : jv_Mem) => ((jv_r x3_4) ∧ (6 ≤ x3_4 → Q x2_4 gl_4) ∧ (x3_4 < 6 → (((0 : Int) ≤ a1 ∧ a1 < (20 : Int)) ∧ ((jv_r (jv_and (jv_shr (gl_4 140 a1) x3_4) 1)) ∧ (¬ (jv_and (jv_shr (gl_4 140 a1) x3_4) 1) = 1 → wB_X9_openOf_29 K4 x2_4 x3_4 0 gl_4) ∧ ((jv_and (jv_shr (gl_4 140 a1) x3_4) 1) = 1 → wB_X9_openOf_29 K4 x2_4 x3_4 1 gl_4)))))) 0 0 g
set_option maxHeartbeats 4000000 in
set_option maxRecDepth 100000 in
theorem M_X9_openOf {l : Launch} {s0 : State} {b0 : Addr} {D : va_G} {ids : Nat → ClassId} {ex : Option Nat} {g : jv_Mem} {a1 : Int} {Q : Int → jv_Mem → Prop} (h : wp_X9_openOf a1 Q g) : jv_M l s0 b0 D ids yX9_openOf cX9_openOf 5 (some .int) 0 0 0 0 ex jv_SH g [.ref (s0.heap.size + (126 : Int).toNat), jv_i a1] ex jv_SH (jv_qi Q) := by
  refine jv_M.of (by decide +kernel) rfl rfl (fun p e s m args below meth c C hml hr hlk hnm => ?_)
  replace C : jv_C p s m args c cX9_openOf RX9 s0 b0 D ids := C
  show jv_V p l e (jv_rm 0 0 0 0) s m args below meth c 0 0 (jv_ZM below s0 D ids ex jv_SH (jv_qi Q) args s 0 0) s0 D ids ex jv_SH g 0 [some (.ref (s0.heap.size + (126 : Int).toNat)), some (jv_i a1), none, none, none] []
  unfold wp_X9_openOf at h
  refine jv_const C dX9_openOf_0 ?_
  refine jv_istore_n (ls' := [some (.ref (s0.heap.size + (126 : Int).toNat)), some (jv_i a1), some (jv_i 0), none, none]) C dX9_openOf_1 (Nat.lt_of_lt_of_eq (Nat.le_of_ble_eq_true rfl) hml) rfl ?_
  refine jv_const C dX9_openOf_2 ?_
  refine jv_istore_n (ls' := [some (.ref (s0.heap.size + (126 : Int).toNat)), some (jv_i a1), some (jv_i 0), some (jv_i 0), none]) C dX9_openOf_3 (Nat.lt_of_lt_of_eq (Nat.le_of_ble_eq_true rfl) hml) rfl ?_
  refine jv_less (ls' := [some (.ref (s0.heap.size + (126 : Int).toNat)), some (jv_i a1), some (jv_i 0), some (jv_i 0), none]) ⟨rfl, ⟨rfl, ⟨rfl, ⟨rfl, trivial⟩⟩⟩⟩ ?_
  refine jv_lp2.use h (fun (x2_4 x3_4 : Int) (gl_4 : jv_Mem) => jv_V p l e (jv_rm 0 0 0 0) s m args below meth c 0 0 (jv_ZM below s0 D ids ex jv_SH (jv_qi Q) args s 0 0) s0 D ids ex jv_SH gl_4 4 [some (.ref (s0.heap.size + (126 : Int).toNat)), some (jv_i a1), some (jv_i x2_4), some (jv_i x3_4), none] []) ?_
  intro K4 hK4 x2_4 x3_4 gl_4 h
  refine jv_iload_n C dX9_openOf_4 rfl ?_
  refine jv_bipush C dX9_openOf_5 (by decide +kernel) ?_
  obtain ⟨hr_7, h1_7, h2_7⟩ := h
  refine jv_icmp_ge (tgt := 69) C hr_7 ⟨by decide, by decide⟩ dX9_openOf_7 rfl (fun hc_7 => ?_) (fun hc_7 => ?_)
  · replace h := h1_7 hc_7
    refine jv_iload_n C dX9_openOf_69 rfl ?_
    exact jv_iret C hr hlk ⟨_, rfl, h⟩ dX9_openOf_70 ⟨rfl, rfl⟩
  · replace h := h2_7 hc_7
    refine jv_aload_n C dX9_openOf_10 rfl ?_
    refine jv_getr C kf_X9_49 sS_126 rfl dX9_openOf_11 ?_
    refine jv_iload_n C dX9_openOf_14 rfl ?_
    obtain ⟨hb_15, h⟩ := h
    refine jv_iald C sS_140 rfl hb_15 dX9_openOf_15 ?_
    refine jv_iload_n C dX9_openOf_16 rfl ?_
    refine jv_ishr C dX9_openOf_17 ?_
    refine jv_const C dX9_openOf_18 ?_
    refine jv_iand C dX9_openOf_19 ?_
    refine jv_const C dX9_openOf_20 ?_
    have hJ29 : ∀ (y0_29 : Int) (gj_29 : jv_Mem), wB_X9_openOf_29 K4 x2_4 x3_4 y0_29 gj_29 → jv_V p l e (jv_rm 0 0 0 0) s m args below meth c 0 0 (jv_ZM below s0 D ids ex jv_SH (jv_qi Q) args s 0 0) s0 D ids ex jv_SH gj_29 29 [some (.ref (s0.heap.size + (126 : Int).toNat)), some (jv_i a1), some (jv_i x2_4), some (jv_i x3_4), none] [jv_i y0_29] := by
      intro y0_29 gj_29 h
      unfold wB_X9_openOf_29 at h
      refine jv_istore (ls' := [some (.ref (s0.heap.size + (126 : Int).toNat)), some (jv_i a1), some (jv_i x2_4), some (jv_i x3_4), some (jv_i y0_29)]) C dX9_openOf_29 (Nat.lt_of_lt_of_eq (Nat.le_of_ble_eq_true rfl) hml) rfl ?_
      refine jv_iload_n C dX9_openOf_31 rfl ?_
      refine jv_iload C dX9_openOf_32 rfl ?_
      have hJ61 : ∀ (y0_61 : Int) (gj_61 : jv_Mem), wB_X9_openOf_61 K4 x2_4 x3_4 y0_61 gj_61 → jv_V p l e (jv_rm 0 0 0 0) s m args below meth c 0 0 (jv_ZM below s0 D ids ex jv_SH (jv_qi Q) args s 0 0) s0 D ids ex jv_SH gj_61 61 [some (.ref (s0.heap.size + (126 : Int).toNat)), some (jv_i a1), none, some (jv_i x3_4), none] [jv_i y0_61, jv_i x2_4] := by
        intro y0_61 gj_61 h
        unfold wB_X9_openOf_61 at h
        refine jv_ior C dX9_openOf_61 ?_
        refine jv_top (fun v2_62 ev2_62 => ?_)
        replace h := h v2_62 ev2_62
        refine jv_istore_n (ls' := [some (.ref (s0.heap.size + (126 : Int).toNat)), some (jv_i a1), some (jv_i v2_62), some (jv_i x3_4), none]) C dX9_openOf_62 (Nat.lt_of_lt_of_eq (Nat.le_of_ble_eq_true rfl) hml) rfl ?_
        refine jv_iincn C dX9_openOf_63 (Nat.lt_of_lt_of_eq (Nat.le_of_ble_eq_true rfl) hml) rfl (fun v3_63 ev3_63 => ?_)
        replace h := h v3_63 ev3_63
        refine jv_lset (ls' := [some (.ref (s0.heap.size + (126 : Int).toNat)), some (jv_i a1), some (jv_i v2_62), some (jv_i v3_63), none]) rfl ?_
        refine jv_goto (tgt := 4) C dX9_openOf_66 rfl ?_
        exact jv_less (ls' := [some (.ref (s0.heap.size + (126 : Int).toNat)), some (jv_i a1), some (jv_i v2_62), some (jv_i v3_63), none]) ⟨rfl, ⟨rfl, ⟨rfl, ⟨rfl, trivial⟩⟩⟩⟩ (hK4 _ _ _ h)
      obtain ⟨hr_34, h1_34, h2_34⟩ := h
      refine jv_if_ne (tgt := 41) C hr_34 dX9_openOf_34 rfl (fun hc_34 => ?_) (fun hc_34 => ?_)
      · replace h := h1_34 hc_34
        refine jv_iload_n C dX9_openOf_41 rfl ?_
        refine jv_const C dX9_openOf_42 ?_
        obtain ⟨hr_43, h1_43, h2_43⟩ := h
        refine jv_icmp_ge (tgt := 55) C hr_43 ⟨by decide, by decide⟩ dX9_openOf_43 rfl (fun hc_43 => ?_) (fun hc_43 => ?_)
        · replace h := h1_43 hc_43
          refine jv_bipush C dX9_openOf_55 (by decide +kernel) ?_
          refine jv_iload_n C dX9_openOf_57 rfl ?_
          refine jv_const C dX9_openOf_58 ?_
          refine jv_isub C dX9_openOf_59 ?_
          refine jv_ishl C dX9_openOf_60 ?_
          exact jv_less (ls' := [some (.ref (s0.heap.size + (126 : Int).toNat)), some (jv_i a1), none, some (jv_i x3_4), none]) ⟨rfl, ⟨rfl, ⟨rfl, trivial⟩⟩⟩ (hJ61 _ _ h)
        · replace h := h2_43 hc_43
          refine jv_bipush C dX9_openOf_46 (by decide +kernel) ?_
          refine jv_const C dX9_openOf_48 ?_
          refine jv_iload_n C dX9_openOf_49 rfl ?_
          refine jv_imul C dX9_openOf_50 ?_
          refine jv_ishl C dX9_openOf_51 ?_
          refine jv_goto (tgt := 61) C dX9_openOf_52 rfl ?_
          exact jv_less (ls' := [some (.ref (s0.heap.size + (126 : Int).toNat)), some (jv_i a1), none, some (jv_i x3_4), none]) ⟨rfl, ⟨rfl, ⟨rfl, trivial⟩⟩⟩ (hJ61 _ _ h)
      · replace h := h2_34 hc_34
        refine jv_const C dX9_openOf_37 ?_
        refine jv_goto (tgt := 61) C dX9_openOf_38 rfl ?_
        exact jv_less (ls' := [some (.ref (s0.heap.size + (126 : Int).toNat)), some (jv_i a1), none, some (jv_i x3_4), none]) ⟨rfl, ⟨rfl, ⟨rfl, trivial⟩⟩⟩ (hJ61 _ _ h)
    obtain ⟨hr_21, h1_21, h2_21⟩ := h
    refine jv_icmp_ne (tgt := 28) C hr_21 ⟨by decide, by decide⟩ dX9_openOf_21 rfl (fun hc_21 => ?_) (fun hc_21 => ?_)
    · replace h := h1_21 hc_21
      refine jv_const C dX9_openOf_28 ?_
      exact jv_less (ls' := [some (.ref (s0.heap.size + (126 : Int).toNat)), some (jv_i a1), some (jv_i x2_4), some (jv_i x3_4), none]) ⟨rfl, ⟨rfl, ⟨rfl, ⟨rfl, trivial⟩⟩⟩⟩ (hJ29 _ _ h)
    · replace h := h2_21 hc_21
      refine jv_const C dX9_openOf_24 ?_
      refine jv_goto (tgt := 29) C dX9_openOf_25 rfl ?_
      exact jv_less (ls' := [some (.ref (s0.heap.size + (126 : Int).toNat)), some (jv_i a1), some (jv_i x2_4), some (jv_i x3_4), none]) ⟨rfl, ⟨rfl, ⟨rfl, ⟨rfl, trivial⟩⟩⟩⟩ (hJ29 _ _ h)

def wB_X9_solved_111 (K23 : Int → Int → Int → Int → jv_Mem → Prop) (x7_23 : Int) (y0_65 : Int) (x4_111 x5_111 : Int) (gj_111 : jv_Mem) : Prop :=
  (∀ v7_111 : Int, v7_111 = x7_23 + 1 → K23 x4_111 x5_111 y0_65 v7_111 gj_111)
def wB_X9_solved_106 (K23 : Int → Int → Int → Int → jv_Mem → Prop) (x7_23 : Int) (y0_65 : Int) (y0_106 : Int) (gj_106 : jv_Mem) : Prop :=
  wB_X9_solved_111 K23 x7_23 y0_65 y0_106 0 gj_106
def wB_X9_solved_97 (K23 : Int → Int → Int → Int → jv_Mem → Prop) (v8_48 : Int) (x7_23 : Int) (y0_65 : Int) (gj_97 : jv_Mem) : Prop :=
  wB_X9_solved_106 K23 x7_23 y0_65 (v8_48 - 1) gj_97
def wB_X9_solved_65 (Q : Int → jv_Mem → Prop) (K23 : Int → Int → Int → Int → jv_Mem → Prop) (r_2 : Int) (v8_48 : Int) (x4_23 : Int) (x5_23 : Int) (x7_23 : Int) (y0_65 : Int) (gj_65 : jv_Mem) : Prop :=
  ((jv_r (jv_and (jv_shr r_2 x7_23) 1)) ∧ (¬ (jv_and (jv_shr r_2 x7_23) 1) = 0 → wB_X9_solved_111 K23 x7_23 y0_65 x4_23 x5_23 gj_65) ∧ ((jv_and (jv_shr r_2 x7_23) 1) = 0 → ((jv_r v8_48) ∧ (¬ v8_48 = 0 → ((jv_r x5_23) ∧ (¬ x5_23 = 0 → wB_X9_solved_97 K23 v8_48 x7_23 y0_65 gj_65) ∧ (x5_23 = 0 → ((jv_r (v8_48 - 1) ∧ jv_r x4_23) ∧ ((v8_48 - 1) ≤ x4_23 → wB_X9_solved_106 K23 x7_23 y0_65 x4_23 gj_65) ∧ (x4_23 < (v8_48 - 1) → wB_X9_solved_97 K23 v8_48 x7_23 y0_65 gj_65))))) ∧ (v8_48 = 0 → Q ((-1)) gj_65))))
def wB_X9_solved_60 (Q : Int → jv_Mem → Prop) (K23 : Int → Int → Int → Int → jv_Mem → Prop) (r_2 : Int) (v8_48 : Int) (x4_23 : Int) (x5_23 : Int) (x7_23 : Int) (gj_60 : jv_Mem) : Prop :=
  wB_X9_solved_65 Q K23 r_2 v8_48 x4_23 x5_23 x7_23 1 gj_60
def wp_X9_solved (a1 : Int) (a2 : Int) (Q : Int → jv_Mem → Prop) (g : jv_Mem) : Prop :=
  (wp_X9_openOf a2 (fun (r_2 : Int) (g_2 : jv_Mem) => (((0 : Int) ≤ a2 ∧ a2 < (20 : Int)) ∧ (∀ v4_12 : Int, v4_12 = g_2 137 a2 → jv_lp4 (fun (K23 : Int → Int → Int → Int → jv_Mem → Prop) (x4_23 x5_23 x6_23 x7_23 : Int) (gl_23 : jv_Mem) => ((jv_r x7_23) ∧ (9 ≤ x7_23 → ((jv_r x6_23) ∧ (x6_23 = 0 → Q ((-1)) gl_23) ∧ (¬ x6_23 = 0 → Q x4_23 gl_23))) ∧ (x7_23 < 9 → (((0 : Int) ≤ ((180 * a1) + (9 * a2)) + x7_23 ∧ ((180 * a1) + (9 * a2)) + x7_23 < (1080 : Int)) ∧ (∀ v8_48 : Int, v8_48 = gl_23 144 (((180 * a1) + (9 * a2)) + x7_23) → ((jv_r x6_23) ∧ (¬ x6_23 = 0 → wB_X9_solved_60 Q K23 r_2 v8_48 x4_23 x5_23 x7_23 gl_23) ∧ (x6_23 = 0 → ((jv_r v8_48) ∧ (v8_48 ≤ 0 → wB_X9_solved_65 Q K23 r_2 v8_48 x4_23 x5_23 x7_23 0 gl_23) ∧ (0 < v8_48 → wB_X9_solved_60 Q K23 r_2 v8_48 x4_23 x5_23 x7_23 gl_23))))))))) v4_12 1 0 0 g_2))) g)
set_option maxHeartbeats 4000000 in
set_option maxRecDepth 100000 in
theorem M_X9_solved {l : Launch} {s0 : State} {b0 : Addr} {D : va_G} {ids : Nat → ClassId} {ex : Option Nat} {g : jv_Mem} {a1 : Int} {a2 : Int} {Q : Int → jv_Mem → Prop} (h : wp_X9_solved a1 a2 Q g) : jv_M l s0 b0 D ids yX9_solved cX9_solved 9 (some .int) 1 24 0 0 ex jv_SH g [.ref (s0.heap.size + (126 : Int).toNat), jv_i a1, jv_i a2] ex jv_SH (jv_qi Q) := by
  refine jv_M.of (by decide +kernel) rfl rfl (fun p e s m args below meth c C hml hr hlk hnm => ?_)
  replace C : jv_C p s m args c cX9_solved RX9 s0 b0 D ids := C
  show jv_V p l e (jv_rm 1 24 0 0) s m args below meth c 0 0 (jv_ZM below s0 D ids ex jv_SH (jv_qi Q) args s 0 0) s0 D ids ex jv_SH g 0 [some (.ref (s0.heap.size + (126 : Int).toNat)), some (jv_i a1), some (jv_i a2), none, none, none, none, none, none] []
  unfold wp_X9_solved at h
  refine jv_aload_n C dX9_solved_0 rfl ?_
  refine jv_iload_n C dX9_solved_1 rfl ?_
  refine jv_callVi C (M_X9_openOf h) kw_X9_156 sS_126 rfl rfl ⟨rfl, rfl⟩ (st := []) rfl rfl ⟨rfl, rfl⟩ dX9_solved_2 (fun r_2 g_2 h => ?_)
  refine jv_istore_n (ls' := [some (.ref (s0.heap.size + (126 : Int).toNat)), some (jv_i a1), some (jv_i a2), some (jv_i r_2), none, none, none, none, none]) C dX9_solved_5 (Nat.lt_of_lt_of_eq (Nat.le_of_ble_eq_true rfl) hml) rfl ?_
  refine jv_aload_n C dX9_solved_6 rfl ?_
  refine jv_getr C kf_X9_40 sS_126 rfl dX9_solved_7 ?_
  refine jv_iload_n C dX9_solved_10 rfl ?_
  obtain ⟨hb_11, h⟩ := h
  refine jv_iald C sS_137 rfl hb_11 dX9_solved_11 ?_
  refine jv_top (fun v4_12 ev4_12 => ?_)
  replace h := h v4_12 ev4_12
  refine jv_istore (ls' := [some (.ref (s0.heap.size + (126 : Int).toNat)), some (jv_i a1), some (jv_i a2), some (jv_i r_2), some (jv_i v4_12), none, none, none, none]) C dX9_solved_12 (Nat.lt_of_lt_of_eq (Nat.le_of_ble_eq_true rfl) hml) rfl ?_
  refine jv_const C dX9_solved_14 ?_
  refine jv_istore (ls' := [some (.ref (s0.heap.size + (126 : Int).toNat)), some (jv_i a1), some (jv_i a2), some (jv_i r_2), some (jv_i v4_12), some (jv_i 1), none, none, none]) C dX9_solved_15 (Nat.lt_of_lt_of_eq (Nat.le_of_ble_eq_true rfl) hml) rfl ?_
  refine jv_const C dX9_solved_17 ?_
  refine jv_istore (ls' := [some (.ref (s0.heap.size + (126 : Int).toNat)), some (jv_i a1), some (jv_i a2), some (jv_i r_2), some (jv_i v4_12), some (jv_i 1), some (jv_i 0), none, none]) C dX9_solved_18 (Nat.lt_of_lt_of_eq (Nat.le_of_ble_eq_true rfl) hml) rfl ?_
  refine jv_const C dX9_solved_20 ?_
  refine jv_istore (ls' := [some (.ref (s0.heap.size + (126 : Int).toNat)), some (jv_i a1), some (jv_i a2), some (jv_i r_2), some (jv_i v4_12), some (jv_i 1), some (jv_i 0), some (jv_i 0), none]) C dX9_solved_21 (Nat.lt_of_lt_of_eq (Nat.le_of_ble_eq_true rfl) hml) rfl ?_
  refine jv_less (ls' := [some (.ref (s0.heap.size + (126 : Int).toNat)), some (jv_i a1), some (jv_i a2), some (jv_i r_2), some (jv_i v4_12), some (jv_i 1), some (jv_i 0), some (jv_i 0), none]) ⟨rfl, ⟨rfl, ⟨rfl, ⟨rfl, ⟨rfl, ⟨rfl, ⟨rfl, ⟨rfl, trivial⟩⟩⟩⟩⟩⟩⟩⟩ ?_
  refine jv_lp4.use h (fun (x4_23 x5_23 x6_23 x7_23 : Int) (gl_23 : jv_Mem) => jv_V p l e (jv_rm 1 24 0 0) s m args below meth c 0 0 (jv_ZM below s0 D ids ex jv_SH (jv_qi Q) args s 0 0) s0 D ids ex jv_SH gl_23 23 [some (.ref (s0.heap.size + (126 : Int).toNat)), some (jv_i a1), some (jv_i a2), some (jv_i r_2), some (jv_i x4_23), some (jv_i x5_23), some (jv_i x6_23), some (jv_i x7_23), none] []) ?_
  intro K23 hK23 x4_23 x5_23 x6_23 x7_23 gl_23 h
  refine jv_iload C dX9_solved_23 rfl ?_
  refine jv_bipush C dX9_solved_25 (by decide +kernel) ?_
  obtain ⟨hr_27, h1_27, h2_27⟩ := h
  refine jv_icmp_ge (tgt := 117) C hr_27 ⟨by decide, by decide⟩ dX9_solved_27 rfl (fun hc_27 => ?_) (fun hc_27 => ?_)
  · replace h := h1_27 hc_27
    refine jv_iload C dX9_solved_117 rfl ?_
    obtain ⟨hr_119, h1_119, h2_119⟩ := h
    refine jv_if_eq (tgt := 127) C hr_119 dX9_solved_119 rfl (fun hc_119 => ?_) (fun hc_119 => ?_)
    · replace h := h1_119 hc_119
      refine jv_const C dX9_solved_127 ?_
      exact jv_iret C hr hlk ⟨_, rfl, h⟩ dX9_solved_128 ⟨rfl, rfl⟩
    · replace h := h2_119 hc_119
      refine jv_iload C dX9_solved_122 rfl ?_
      refine jv_goto (tgt := 128) C dX9_solved_124 rfl ?_
      exact jv_iret C hr hlk ⟨_, rfl, h⟩ dX9_solved_128 ⟨rfl, rfl⟩
  · replace h := h2_27 hc_27
    refine jv_aload_n C dX9_solved_30 rfl ?_
    refine jv_getr C kf_X9_61 sS_126 rfl dX9_solved_31 ?_
    refine jv_sipush C dX9_solved_34 (by decide +kernel) ?_
    refine jv_iload_n C dX9_solved_37 rfl ?_
    refine jv_imul C dX9_solved_38 ?_
    refine jv_bipush C dX9_solved_39 (by decide +kernel) ?_
    refine jv_iload_n C dX9_solved_41 rfl ?_
    refine jv_imul C dX9_solved_42 ?_
    refine jv_iadd C dX9_solved_43 ?_
    refine jv_iload C dX9_solved_44 rfl ?_
    refine jv_iadd C dX9_solved_46 ?_
    obtain ⟨hb_47, h⟩ := h
    refine jv_iald C sS_144 rfl hb_47 dX9_solved_47 ?_
    refine jv_top (fun v8_48 ev8_48 => ?_)
    replace h := h v8_48 ev8_48
    refine jv_istore (ls' := [some (.ref (s0.heap.size + (126 : Int).toNat)), some (jv_i a1), some (jv_i a2), some (jv_i r_2), some (jv_i x4_23), some (jv_i x5_23), some (jv_i x6_23), some (jv_i x7_23), some (jv_i v8_48)]) C dX9_solved_48 (Nat.lt_of_lt_of_eq (Nat.le_of_ble_eq_true rfl) hml) rfl ?_
    refine jv_iload C dX9_solved_50 rfl ?_
    have hJ65 : ∀ (y0_65 : Int) (gj_65 : jv_Mem), wB_X9_solved_65 Q K23 r_2 v8_48 x4_23 x5_23 x7_23 y0_65 gj_65 → jv_V p l e (jv_rm 1 24 0 0) s m args below meth c 0 0 (jv_ZM below s0 D ids ex jv_SH (jv_qi Q) args s 0 0) s0 D ids ex jv_SH gj_65 65 [some (.ref (s0.heap.size + (126 : Int).toNat)), some (jv_i a1), some (jv_i a2), some (jv_i r_2), some (jv_i x4_23), some (jv_i x5_23), none, some (jv_i x7_23), some (jv_i v8_48)] [jv_i y0_65] := by
      intro y0_65 gj_65 h
      unfold wB_X9_solved_65 at h
      refine jv_istore (ls' := [some (.ref (s0.heap.size + (126 : Int).toNat)), some (jv_i a1), some (jv_i a2), some (jv_i r_2), some (jv_i x4_23), some (jv_i x5_23), some (jv_i y0_65), some (jv_i x7_23), some (jv_i v8_48)]) C dX9_solved_65 (Nat.lt_of_lt_of_eq (Nat.le_of_ble_eq_true rfl) hml) rfl ?_
      refine jv_iload_n C dX9_solved_67 rfl ?_
      refine jv_iload C dX9_solved_68 rfl ?_
      refine jv_ishr C dX9_solved_70 ?_
      refine jv_const C dX9_solved_71 ?_
      refine jv_iand C dX9_solved_72 ?_
      have hJ111 : ∀ (x4_111 x5_111 : Int) (gj_111 : jv_Mem), wB_X9_solved_111 K23 x7_23 y0_65 x4_111 x5_111 gj_111 → jv_V p l e (jv_rm 1 24 0 0) s m args below meth c 0 0 (jv_ZM below s0 D ids ex jv_SH (jv_qi Q) args s 0 0) s0 D ids ex jv_SH gj_111 111 [some (.ref (s0.heap.size + (126 : Int).toNat)), some (jv_i a1), some (jv_i a2), some (jv_i r_2), some (jv_i x4_111), some (jv_i x5_111), some (jv_i y0_65), some (jv_i x7_23), none] [] := by
        intro x4_111 x5_111 gj_111 h
        unfold wB_X9_solved_111 at h
        refine jv_iincn C dX9_solved_111 (Nat.lt_of_lt_of_eq (Nat.le_of_ble_eq_true rfl) hml) rfl (fun v7_111 ev7_111 => ?_)
        replace h := h v7_111 ev7_111
        refine jv_lset (ls' := [some (.ref (s0.heap.size + (126 : Int).toNat)), some (jv_i a1), some (jv_i a2), some (jv_i r_2), some (jv_i x4_111), some (jv_i x5_111), some (jv_i y0_65), some (jv_i v7_111), none]) rfl ?_
        refine jv_goto (tgt := 23) C dX9_solved_114 rfl ?_
        exact jv_less (ls' := [some (.ref (s0.heap.size + (126 : Int).toNat)), some (jv_i a1), some (jv_i a2), some (jv_i r_2), some (jv_i x4_111), some (jv_i x5_111), some (jv_i y0_65), some (jv_i v7_111), none]) ⟨rfl, ⟨rfl, ⟨rfl, ⟨rfl, ⟨rfl, ⟨rfl, ⟨rfl, ⟨rfl, trivial⟩⟩⟩⟩⟩⟩⟩⟩ (hK23 _ _ _ _ _ h)
      obtain ⟨hr_73, h1_73, h2_73⟩ := h
      refine jv_if_ne (tgt := 111) C hr_73 dX9_solved_73 rfl (fun hc_73 => ?_) (fun hc_73 => ?_)
      · replace h := h1_73 hc_73
        exact jv_less (ls' := [some (.ref (s0.heap.size + (126 : Int).toNat)), some (jv_i a1), some (jv_i a2), some (jv_i r_2), some (jv_i x4_23), some (jv_i x5_23), some (jv_i y0_65), some (jv_i x7_23), none]) ⟨rfl, ⟨rfl, ⟨rfl, ⟨rfl, ⟨rfl, ⟨rfl, ⟨rfl, ⟨rfl, trivial⟩⟩⟩⟩⟩⟩⟩⟩ (hJ111 _ _ _ h)
      · replace h := h2_73 hc_73
        refine jv_iload C dX9_solved_76 rfl ?_
        obtain ⟨hr_78, h1_78, h2_78⟩ := h
        refine jv_if_ne (tgt := 83) C hr_78 dX9_solved_78 rfl (fun hc_78 => ?_) (fun hc_78 => ?_)
        · replace h := h1_78 hc_78
          refine jv_iload C dX9_solved_83 rfl ?_
          have hJ106 : ∀ (y0_106 : Int) (gj_106 : jv_Mem), wB_X9_solved_106 K23 x7_23 y0_65 y0_106 gj_106 → jv_V p l e (jv_rm 1 24 0 0) s m args below meth c 0 0 (jv_ZM below s0 D ids ex jv_SH (jv_qi Q) args s 0 0) s0 D ids ex jv_SH gj_106 106 [some (.ref (s0.heap.size + (126 : Int).toNat)), some (jv_i a1), some (jv_i a2), some (jv_i r_2), none, none, some (jv_i y0_65), some (jv_i x7_23), none] [jv_i y0_106] := by
            intro y0_106 gj_106 h
            unfold wB_X9_solved_106 at h
            refine jv_istore (ls' := [some (.ref (s0.heap.size + (126 : Int).toNat)), some (jv_i a1), some (jv_i a2), some (jv_i r_2), some (jv_i y0_106), none, some (jv_i y0_65), some (jv_i x7_23), none]) C dX9_solved_106 (Nat.lt_of_lt_of_eq (Nat.le_of_ble_eq_true rfl) hml) rfl ?_
            refine jv_const C dX9_solved_108 ?_
            refine jv_istore (ls' := [some (.ref (s0.heap.size + (126 : Int).toNat)), some (jv_i a1), some (jv_i a2), some (jv_i r_2), some (jv_i y0_106), some (jv_i 0), some (jv_i y0_65), some (jv_i x7_23), none]) C dX9_solved_109 (Nat.lt_of_lt_of_eq (Nat.le_of_ble_eq_true rfl) hml) rfl ?_
            exact jv_less (ls' := [some (.ref (s0.heap.size + (126 : Int).toNat)), some (jv_i a1), some (jv_i a2), some (jv_i r_2), some (jv_i y0_106), some (jv_i 0), some (jv_i y0_65), some (jv_i x7_23), none]) ⟨rfl, ⟨rfl, ⟨rfl, ⟨rfl, ⟨rfl, ⟨rfl, ⟨rfl, ⟨rfl, trivial⟩⟩⟩⟩⟩⟩⟩⟩ (hJ111 _ _ _ h)
          have hJ97 : ∀ (gj_97 : jv_Mem), wB_X9_solved_97 K23 v8_48 x7_23 y0_65 gj_97 → jv_V p l e (jv_rm 1 24 0 0) s m args below meth c 0 0 (jv_ZM below s0 D ids ex jv_SH (jv_qi Q) args s 0 0) s0 D ids ex jv_SH gj_97 97 [some (.ref (s0.heap.size + (126 : Int).toNat)), some (jv_i a1), some (jv_i a2), some (jv_i r_2), none, none, some (jv_i y0_65), some (jv_i x7_23), some (jv_i v8_48)] [] := by
            intro gj_97 h
            unfold wB_X9_solved_97 at h
            refine jv_iload C dX9_solved_97 rfl ?_
            refine jv_const C dX9_solved_99 ?_
            refine jv_isub C dX9_solved_100 ?_
            refine jv_goto (tgt := 106) C dX9_solved_101 rfl ?_
            exact jv_less (ls' := [some (.ref (s0.heap.size + (126 : Int).toNat)), some (jv_i a1), some (jv_i a2), some (jv_i r_2), none, none, some (jv_i y0_65), some (jv_i x7_23), none]) ⟨rfl, ⟨rfl, ⟨rfl, ⟨rfl, ⟨rfl, ⟨rfl, trivial⟩⟩⟩⟩⟩⟩ (hJ106 _ _ h)
          obtain ⟨hr_85, h1_85, h2_85⟩ := h
          refine jv_if_ne (tgt := 97) C hr_85 dX9_solved_85 rfl (fun hc_85 => ?_) (fun hc_85 => ?_)
          · replace h := h1_85 hc_85
            exact jv_less (ls' := [some (.ref (s0.heap.size + (126 : Int).toNat)), some (jv_i a1), some (jv_i a2), some (jv_i r_2), none, none, some (jv_i y0_65), some (jv_i x7_23), some (jv_i v8_48)]) ⟨rfl, ⟨rfl, ⟨rfl, ⟨rfl, ⟨rfl, ⟨rfl, ⟨rfl, trivial⟩⟩⟩⟩⟩⟩⟩ (hJ97 _ h)
          · replace h := h2_85 hc_85
            refine jv_iload C dX9_solved_88 rfl ?_
            refine jv_const C dX9_solved_90 ?_
            refine jv_isub C dX9_solved_91 ?_
            refine jv_iload C dX9_solved_92 rfl ?_
            obtain ⟨hr_94, h1_94, h2_94⟩ := h
            refine jv_icmp_le (tgt := 104) C hr_94.1 hr_94.2 dX9_solved_94 rfl (fun hc_94 => ?_) (fun hc_94 => ?_)
            · replace h := h1_94 hc_94
              refine jv_iload C dX9_solved_104 rfl ?_
              exact jv_less (ls' := [some (.ref (s0.heap.size + (126 : Int).toNat)), some (jv_i a1), some (jv_i a2), some (jv_i r_2), none, none, some (jv_i y0_65), some (jv_i x7_23), none]) ⟨rfl, ⟨rfl, ⟨rfl, ⟨rfl, ⟨rfl, ⟨rfl, trivial⟩⟩⟩⟩⟩⟩ (hJ106 _ _ h)
            · replace h := h2_94 hc_94
              exact jv_less (ls' := [some (.ref (s0.heap.size + (126 : Int).toNat)), some (jv_i a1), some (jv_i a2), some (jv_i r_2), none, none, some (jv_i y0_65), some (jv_i x7_23), some (jv_i v8_48)]) ⟨rfl, ⟨rfl, ⟨rfl, ⟨rfl, ⟨rfl, ⟨rfl, ⟨rfl, trivial⟩⟩⟩⟩⟩⟩⟩ (hJ97 _ h)
        · replace h := h2_78 hc_78
          refine jv_const C dX9_solved_81 ?_
          exact jv_iret C hr hlk ⟨_, rfl, h⟩ dX9_solved_82 ⟨rfl, rfl⟩
    have hJ60 : ∀ (gj_60 : jv_Mem), wB_X9_solved_60 Q K23 r_2 v8_48 x4_23 x5_23 x7_23 gj_60 → jv_V p l e (jv_rm 1 24 0 0) s m args below meth c 0 0 (jv_ZM below s0 D ids ex jv_SH (jv_qi Q) args s 0 0) s0 D ids ex jv_SH gj_60 60 [some (.ref (s0.heap.size + (126 : Int).toNat)), some (jv_i a1), some (jv_i a2), some (jv_i r_2), some (jv_i x4_23), some (jv_i x5_23), none, some (jv_i x7_23), some (jv_i v8_48)] [] := by
      intro gj_60 h
      unfold wB_X9_solved_60 at h
      refine jv_const C dX9_solved_60 ?_
      refine jv_goto (tgt := 65) C dX9_solved_61 rfl ?_
      exact jv_less (ls' := [some (.ref (s0.heap.size + (126 : Int).toNat)), some (jv_i a1), some (jv_i a2), some (jv_i r_2), some (jv_i x4_23), some (jv_i x5_23), none, some (jv_i x7_23), some (jv_i v8_48)]) ⟨rfl, ⟨rfl, ⟨rfl, ⟨rfl, ⟨rfl, ⟨rfl, ⟨rfl, ⟨rfl, trivial⟩⟩⟩⟩⟩⟩⟩⟩ (hJ65 _ _ h)
    obtain ⟨hr_52, h1_52, h2_52⟩ := h
    refine jv_if_ne (tgt := 60) C hr_52 dX9_solved_52 rfl (fun hc_52 => ?_) (fun hc_52 => ?_)
    · replace h := h1_52 hc_52
      exact jv_less (ls' := [some (.ref (s0.heap.size + (126 : Int).toNat)), some (jv_i a1), some (jv_i a2), some (jv_i r_2), some (jv_i x4_23), some (jv_i x5_23), none, some (jv_i x7_23), some (jv_i v8_48)]) ⟨rfl, ⟨rfl, ⟨rfl, ⟨rfl, ⟨rfl, ⟨rfl, ⟨rfl, ⟨rfl, trivial⟩⟩⟩⟩⟩⟩⟩⟩ (hJ60 _ h)
    · replace h := h2_52 hc_52
      refine jv_iload C dX9_solved_55 rfl ?_
      obtain ⟨hr_57, h1_57, h2_57⟩ := h
      refine jv_if_le (tgt := 64) C hr_57 dX9_solved_57 rfl (fun hc_57 => ?_) (fun hc_57 => ?_)
      · replace h := h1_57 hc_57
        refine jv_const C dX9_solved_64 ?_
        exact jv_less (ls' := [some (.ref (s0.heap.size + (126 : Int).toNat)), some (jv_i a1), some (jv_i a2), some (jv_i r_2), some (jv_i x4_23), some (jv_i x5_23), none, some (jv_i x7_23), some (jv_i v8_48)]) ⟨rfl, ⟨rfl, ⟨rfl, ⟨rfl, ⟨rfl, ⟨rfl, ⟨rfl, ⟨rfl, trivial⟩⟩⟩⟩⟩⟩⟩⟩ (hJ65 _ _ h)
      · replace h := h2_57 hc_57
        exact jv_less (ls' := [some (.ref (s0.heap.size + (126 : Int).toNat)), some (jv_i a1), some (jv_i a2), some (jv_i r_2), some (jv_i x4_23), some (jv_i x5_23), none, some (jv_i x7_23), some (jv_i v8_48)]) ⟨rfl, ⟨rfl, ⟨rfl, ⟨rfl, ⟨rfl, ⟨rfl, ⟨rfl, ⟨rfl, trivial⟩⟩⟩⟩⟩⟩⟩⟩ (hJ60 _ h)

def wp_X9_counts (a1 : Int) (a2 : Int) (Q : jv_Mem → Prop) (g : jv_Mem) : Prop :=
  (wp_X9_solved a1 a2 (fun (r_3 : Int) (g_3 : jv_Mem) => ((jv_r r_3) ∧ (r_3 = ((-1)) → Q g_3) ∧ (¬ r_3 = ((-1)) → (wp_X9_dayOf a1 r_3 (fun (r_24 : Int) (g_24 : jv_Mem) => (((0 : Int) ≤ (1260 * a1) + r_24 ∧ (1260 * a1) + r_24 < (7560 : Int)) ∧ (∀ g_29 : jv_Mem, g_29 = jv_up g_24 147 ((1260 * a1) + r_24) 1 → Q g_29))) g_3)))) g)
set_option maxHeartbeats 4000000 in
set_option maxRecDepth 100000 in
theorem M_X9_counts {l : Launch} {s0 : State} {b0 : Addr} {D : va_G} {ids : Nat → ClassId} {ex : Option Nat} {g : jv_Mem} {a1 : Int} {a2 : Int} {Q : jv_Mem → Prop} (h : wp_X9_counts a1 a2 Q g) : jv_M l s0 b0 D ids yX9_counts cX9_counts 4 none 2 52 0 0 ex jv_SH g [.ref (s0.heap.size + (126 : Int).toNat), jv_i a1, jv_i a2] ex jv_SH (jv_qv Q) := by
  refine jv_M.of (by decide +kernel) rfl rfl (fun p e s m args below meth c C hml hr hlk hnm => ?_)
  replace C : jv_C p s m args c cX9_counts RX9 s0 b0 D ids := C
  show jv_V p l e (jv_rm 2 52 0 0) s m args below meth c 0 0 (jv_ZM below s0 D ids ex jv_SH (jv_qv Q) args s 0 0) s0 D ids ex jv_SH g 0 [some (.ref (s0.heap.size + (126 : Int).toNat)), some (jv_i a1), some (jv_i a2), none] []
  unfold wp_X9_counts at h
  refine jv_aload_n C dX9_counts_0 rfl ?_
  refine jv_iload_n C dX9_counts_1 rfl ?_
  refine jv_iload_n C dX9_counts_2 rfl ?_
  refine jv_callVi C (M_X9_solved h) kw_X9_159 sS_126 rfl rfl ⟨rfl, rfl⟩ (st := []) rfl rfl ⟨rfl, rfl⟩ dX9_counts_3 (fun r_3 g_3 h => ?_)
  refine jv_istore_n (ls' := [some (.ref (s0.heap.size + (126 : Int).toNat)), some (jv_i a1), some (jv_i a2), some (jv_i r_3)]) C dX9_counts_6 (Nat.lt_of_lt_of_eq (Nat.le_of_ble_eq_true rfl) hml) rfl ?_
  refine jv_iload_n C dX9_counts_7 rfl ?_
  refine jv_const C dX9_counts_8 ?_
  obtain ⟨hr_9, h1_9, h2_9⟩ := h
  refine jv_icmp_eq (tgt := 30) C hr_9 ⟨by decide, by decide⟩ dX9_counts_9 rfl (fun hc_9 => ?_) (fun hc_9 => ?_)
  · replace h := h1_9 hc_9
    exact jv_vret C hr hlk ⟨rfl, h⟩ dX9_counts_30 ⟨rfl, rfl⟩
  · replace h := h2_9 hc_9
    refine jv_aload_n C dX9_counts_12 rfl ?_
    refine jv_getr C kf_X9_70 sS_126 rfl dX9_counts_13 ?_
    refine jv_sipush C dX9_counts_16 (by decide +kernel) ?_
    refine jv_iload_n C dX9_counts_19 rfl ?_
    refine jv_imul C dX9_counts_20 ?_
    refine jv_aload_n C dX9_counts_21 rfl ?_
    refine jv_iload_n C dX9_counts_22 rfl ?_
    refine jv_iload_n C dX9_counts_23 rfl ?_
    refine jv_callVi C (M_X9_dayOf h) kw_X9_162 sS_126 rfl rfl ⟨rfl, rfl⟩ (st := [jv_i (1260 * a1), .ref (s0.heap.size + (147 : Int).toNat)]) rfl rfl ⟨rfl, rfl⟩ dX9_counts_24 (fun r_24 g_24 h => ?_)
    refine jv_iadd C dX9_counts_27 ?_
    refine jv_const C dX9_counts_28 ?_
    obtain ⟨hb_29, h⟩ := h
    refine jv_iast C sS_147 rfl hb_29 dX9_counts_29 (jv_gm (fun g_29 eg_29 => ?_))
    replace h := h g_29 eg_29
    exact jv_vret C hr hlk ⟨rfl, h⟩ dX9_counts_30 ⟨rfl, rfl⟩

def wB_X9_isCell_30 (Q : Int → jv_Mem → Prop) (gj_30 : jv_Mem) : Prop :=
  Q 0 gj_30
def wp_X9_isCell (a1 : Int) (a2 : Int) (a3 : Int) (Q : Int → jv_Mem → Prop) (g : jv_Mem) : Prop :=
  (wp_X9_isSolver a1 (fun (r_2 : Int) (g_2 : jv_Mem) => ((jv_r r_2) ∧ (r_2 = 0 → wB_X9_isCell_30 Q g_2) ∧ (¬ r_2 = 0 → (wp_X9_isPuzzle a2 (fun (r_10 : Int) (g_10 : jv_Mem) => ((jv_r r_10) ∧ (r_10 = 0 → wB_X9_isCell_30 Q g_10) ∧ (¬ r_10 = 0 → (wp_X9_in a3 0 8 (fun (r_20 : Int) (g_20 : jv_Mem) => ((jv_r r_20) ∧ (r_20 = 0 → wB_X9_isCell_30 Q g_20) ∧ (¬ r_20 = 0 → Q 1 g_20))) g_10)))) g_2)))) g)
set_option maxHeartbeats 4000000 in
set_option maxRecDepth 100000 in
theorem M_X9_isCell {l : Launch} {s0 : State} {b0 : Addr} {D : va_G} {ids : Nat → ClassId} {ex : Option Nat} {g : jv_Mem} {a1 : Int} {a2 : Int} {a3 : Int} {Q : Int → jv_Mem → Prop} (h : wp_X9_isCell a1 a2 a3 Q g) : jv_M l s0 b0 D ids yX9_isCell cX9_isCell 4 (some .boolean) 2 43 0 0 ex jv_SH g [.ref (s0.heap.size + (126 : Int).toNat), jv_i a1, jv_i a2, jv_i a3] ex jv_SH (jv_qi Q) := by
  refine jv_M.of (by decide +kernel) rfl rfl (fun p e s m args below meth c C hml hr hlk hnm => ?_)
  replace C : jv_C p s m args c cX9_isCell RX9 s0 b0 D ids := C
  show jv_V p l e (jv_rm 2 43 0 0) s m args below meth c 0 0 (jv_ZM below s0 D ids ex jv_SH (jv_qi Q) args s 0 0) s0 D ids ex jv_SH g 0 [some (.ref (s0.heap.size + (126 : Int).toNat)), some (jv_i a1), some (jv_i a2), some (jv_i a3)] []
  unfold wp_X9_isCell at h
  refine jv_aload_n C dX9_isCell_0 rfl ?_
  refine jv_iload_n C dX9_isCell_1 rfl ?_
  refine jv_callVi C (M_X9_isSolver h) kw_X9_165 sS_126 rfl rfl ⟨rfl, rfl⟩ (st := []) rfl rfl ⟨rfl, rfl⟩ dX9_isCell_2 (fun r_2 g_2 h => ?_)
  have hJ30 : ∀ (gj_30 : jv_Mem), wB_X9_isCell_30 Q gj_30 → jv_V p l e (jv_rm 2 43 0 0) s m args below meth c 0 0 (jv_ZM below s0 D ids ex jv_SH (jv_qi Q) args s 0 0) s0 D ids ex jv_SH gj_30 30 [none, none, none, none] [] := by
    intro gj_30 h
    unfold wB_X9_isCell_30 at h
    refine jv_const C dX9_isCell_30 ?_
    exact jv_zret C hr hlk rfl ⟨_, rfl, h⟩ dX9_isCell_31 ⟨rfl, rfl⟩
  obtain ⟨hr_5, h1_5, h2_5⟩ := h
  refine jv_if_eq (tgt := 30) C hr_5 dX9_isCell_5 rfl (fun hc_5 => ?_) (fun hc_5 => ?_)
  · replace h := h1_5 hc_5
    exact jv_less (ls' := [none, none, none, none]) trivial (hJ30 _ h)
  · replace h := h2_5 hc_5
    refine jv_aload_n C dX9_isCell_8 rfl ?_
    refine jv_iload_n C dX9_isCell_9 rfl ?_
    refine jv_callVi C (M_X9_isPuzzle h) kw_X9_150 sS_126 rfl rfl ⟨rfl, rfl⟩ (st := []) rfl rfl ⟨rfl, rfl⟩ dX9_isCell_10 (fun r_10 g_10 h => ?_)
    obtain ⟨hr_13, h1_13, h2_13⟩ := h
    refine jv_if_eq (tgt := 30) C hr_13 dX9_isCell_13 rfl (fun hc_13 => ?_) (fun hc_13 => ?_)
    · replace h := h1_13 hc_13
      exact jv_less (ls' := [none, none, none, none]) trivial (hJ30 _ h)
    · replace h := h2_13 hc_13
      refine jv_iload_n C dX9_isCell_16 rfl ?_
      refine jv_const C dX9_isCell_17 ?_
      refine jv_bipush C dX9_isCell_18 (by decide +kernel) ?_
      refine jv_callSi C (M_X9_in h) kw_X9_80 rfl ⟨rfl, rfl⟩ (st := []) rfl rfl ⟨rfl, rfl⟩ dX9_isCell_20 (fun r_20 g_20 h => ?_)
      obtain ⟨hr_23, h1_23, h2_23⟩ := h
      refine jv_if_eq (tgt := 30) C hr_23 dX9_isCell_23 rfl (fun hc_23 => ?_) (fun hc_23 => ?_)
      · replace h := h1_23 hc_23
        exact jv_less (ls' := [none, none, none, none]) trivial (hJ30 _ h)
      · replace h := h2_23 hc_23
        refine jv_const C dX9_isCell_26 ?_
        refine jv_goto (tgt := 31) C dX9_isCell_27 rfl ?_
        exact jv_zret C hr hlk rfl ⟨_, rfl, h⟩ dX9_isCell_31 ⟨rfl, rfl⟩

def wB_X9_isOver_33 (Q : Int → jv_Mem → Prop) (gj_33 : jv_Mem) : Prop :=
  Q 1 gj_33
def wp_X9_isOver (a1 : Int) (a2 : Int) (a3 : Int) (Q : Int → jv_Mem → Prop) (g : jv_Mem) : Prop :=
  (((0 : Int) ≤ ((180 * a1) + (9 * a2)) + a3 ∧ ((180 * a1) + (9 * a2)) + a3 < (1080 : Int)) ∧ ((jv_r (g 144 (((180 * a1) + (9 * a2)) + a3))) ∧ (0 < (g 144 (((180 * a1) + (9 * a2)) + a3)) → wB_X9_isOver_33 Q g) ∧ ((g 144 (((180 * a1) + (9 * a2)) + a3)) ≤ 0 → (wp_X9_openOf a2 (fun (r_22 : Int) (g_22 : jv_Mem) => ((jv_r (jv_and (jv_shr r_22 a3) 1)) ∧ (¬ (jv_and (jv_shr r_22 a3) 1) = 1 → Q 0 g_22) ∧ ((jv_and (jv_shr r_22 a3) 1) = 1 → wB_X9_isOver_33 Q g_22))) g))))
set_option maxHeartbeats 4000000 in
set_option maxRecDepth 100000 in
theorem M_X9_isOver {l : Launch} {s0 : State} {b0 : Addr} {D : va_G} {ids : Nat → ClassId} {ex : Option Nat} {g : jv_Mem} {a1 : Int} {a2 : Int} {a3 : Int} {Q : Int → jv_Mem → Prop} (h : wp_X9_isOver a1 a2 a3 Q g) : jv_M l s0 b0 D ids yX9_isOver cX9_isOver 4 (some .boolean) 1 24 0 0 ex jv_SH g [.ref (s0.heap.size + (126 : Int).toNat), jv_i a1, jv_i a2, jv_i a3] ex jv_SH (jv_qi Q) := by
  refine jv_M.of (by decide +kernel) rfl rfl (fun p e s m args below meth c C hml hr hlk hnm => ?_)
  replace C : jv_C p s m args c cX9_isOver RX9 s0 b0 D ids := C
  show jv_V p l e (jv_rm 1 24 0 0) s m args below meth c 0 0 (jv_ZM below s0 D ids ex jv_SH (jv_qi Q) args s 0 0) s0 D ids ex jv_SH g 0 [some (.ref (s0.heap.size + (126 : Int).toNat)), some (jv_i a1), some (jv_i a2), some (jv_i a3)] []
  unfold wp_X9_isOver at h
  refine jv_aload_n C dX9_isOver_0 rfl ?_
  refine jv_getr C kf_X9_61 sS_126 rfl dX9_isOver_1 ?_
  refine jv_sipush C dX9_isOver_4 (by decide +kernel) ?_
  refine jv_iload_n C dX9_isOver_7 rfl ?_
  refine jv_imul C dX9_isOver_8 ?_
  refine jv_bipush C dX9_isOver_9 (by decide +kernel) ?_
  refine jv_iload_n C dX9_isOver_11 rfl ?_
  refine jv_imul C dX9_isOver_12 ?_
  refine jv_iadd C dX9_isOver_13 ?_
  refine jv_iload_n C dX9_isOver_14 rfl ?_
  refine jv_iadd C dX9_isOver_15 ?_
  obtain ⟨hb_16, h⟩ := h
  refine jv_iald C sS_144 rfl hb_16 dX9_isOver_16 ?_
  have hJ33 : ∀ (gj_33 : jv_Mem), wB_X9_isOver_33 Q gj_33 → jv_V p l e (jv_rm 1 24 0 0) s m args below meth c 0 0 (jv_ZM below s0 D ids ex jv_SH (jv_qi Q) args s 0 0) s0 D ids ex jv_SH gj_33 33 [none, none, none, none] [] := by
    intro gj_33 h
    unfold wB_X9_isOver_33 at h
    refine jv_const C dX9_isOver_33 ?_
    refine jv_goto (tgt := 38) C dX9_isOver_34 rfl ?_
    exact jv_zret C hr hlk rfl ⟨_, rfl, h⟩ dX9_isOver_38 ⟨rfl, rfl⟩
  obtain ⟨hr_17, h1_17, h2_17⟩ := h
  refine jv_if_gt (tgt := 33) C hr_17 dX9_isOver_17 rfl (fun hc_17 => ?_) (fun hc_17 => ?_)
  · replace h := h1_17 hc_17
    exact jv_less (ls' := [none, none, none, none]) trivial (hJ33 _ h)
  · replace h := h2_17 hc_17
    refine jv_aload_n C dX9_isOver_20 rfl ?_
    refine jv_iload_n C dX9_isOver_21 rfl ?_
    refine jv_callVi C (M_X9_openOf h) kw_X9_156 sS_126 rfl rfl ⟨rfl, rfl⟩ (st := []) rfl rfl ⟨rfl, rfl⟩ dX9_isOver_22 (fun r_22 g_22 h => ?_)
    refine jv_iload_n C dX9_isOver_25 rfl ?_
    refine jv_ishr C dX9_isOver_26 ?_
    refine jv_const C dX9_isOver_27 ?_
    refine jv_iand C dX9_isOver_28 ?_
    refine jv_const C dX9_isOver_29 ?_
    obtain ⟨hr_30, h1_30, h2_30⟩ := h
    refine jv_icmp_ne (tgt := 37) C hr_30 ⟨by decide, by decide⟩ dX9_isOver_30 rfl (fun hc_30 => ?_) (fun hc_30 => ?_)
    · replace h := h1_30 hc_30
      refine jv_const C dX9_isOver_37 ?_
      exact jv_zret C hr hlk rfl ⟨_, rfl, h⟩ dX9_isOver_38 ⟨rfl, rfl⟩
    · replace h := h2_30 hc_30
      exact jv_less (ls' := [none, none, none, none]) trivial (hJ33 _ h)

def wB_X9_enter_41 (a1 : Int) (a2 : Int) (a3 : Int) (a4 : Int) (Q : Int → jv_Mem → Prop) (y0_41 : Int) (gj_41 : jv_Mem) : Prop :=
  (∀ g_41 : jv_Mem, g_41 = jv_up gj_41 126 29 y0_41 → ((jv_r (g_41 126 29)) ∧ (0 < (g_41 126 29) → Q 0 g_41) ∧ ((g_41 126 29) ≤ 0 → (((0 : Int) ≤ (9 * a2) + a3 ∧ (9 * a2) + a3 < (180 : Int)) ∧ ((jv_r (g_41 138 ((9 * a2) + a3)) ∧ jv_r a4) ∧ ((g_41 138 ((9 * a2) + a3)) = a4 → (((0 : Int) ≤ ((180 * a1) + (9 * a2)) + a3 ∧ ((180 * a1) + (9 * a2)) + a3 < (1080 : Int)) ∧ (∀ g_91 : jv_Mem, g_91 = jv_up g_41 144 (((180 * a1) + (9 * a2)) + a3) ((g_41 126 15) + 1) → (wp_X9_counts a1 a2 (fun (g_95 : jv_Mem) => Q 1 g_95) g_91)))) ∧ (¬ (g_41 138 ((9 * a2) + a3)) = a4 → Q 0 g_41))))))
def wB_X9_enter_22 (a1 : Int) (a2 : Int) (a3 : Int) (a4 : Int) (Q : Int → jv_Mem → Prop) (gj_22 : jv_Mem) : Prop :=
  wB_X9_enter_41 a1 a2 a3 a4 Q 1 gj_22
def wp_X9_enter (a1 : Int) (a2 : Int) (a3 : Int) (a4 : Int) (Q : Int → jv_Mem → Prop) (g : jv_Mem) : Prop :=
  (wp_X9_isCell a1 a2 a3 (fun (r_5 : Int) (g_5 : jv_Mem) => ((jv_r r_5) ∧ (r_5 = 0 → wB_X9_enter_22 a1 a2 a3 a4 Q g_5) ∧ (¬ r_5 = 0 → (wp_X9_in a4 0 8 (fun (r_16 : Int) (g_16 : jv_Mem) => ((jv_r r_16) ∧ (¬ r_16 = 0 → (wp_X9_isOver a1 a2 a3 (fun (r_30 : Int) (g_30 : jv_Mem) => ((jv_r r_30) ∧ (r_30 = 0 → wB_X9_enter_41 a1 a2 a3 a4 Q 0 g_30) ∧ (¬ r_30 = 0 → wB_X9_enter_41 a1 a2 a3 a4 Q 2 g_30))) g_16)) ∧ (r_16 = 0 → wB_X9_enter_22 a1 a2 a3 a4 Q g_16))) g_5)))) g)
set_option maxHeartbeats 4000000 in
set_option maxRecDepth 100000 in
theorem M_X9_enter {l : Launch} {s0 : State} {b0 : Addr} {D : va_G} {ids : Nat → ClassId} {ex : Option Nat} {g : jv_Mem} {a1 : Int} {a2 : Int} {a3 : Int} {a4 : Int} {Q : Int → jv_Mem → Prop} (h : wp_X9_enter a1 a2 a3 a4 Q g) : jv_M l s0 b0 D ids yX9_enter cX9_enter 5 (some .boolean) 3 75 0 0 ex jv_SH g [.ref (s0.heap.size + (126 : Int).toNat), jv_i a1, jv_i a2, jv_i a3, jv_i a4] ex jv_SH (jv_qi Q) := by
  refine jv_M.of (by decide +kernel) rfl rfl (fun p e s m args below meth c C hml hr hlk hnm => ?_)
  replace C : jv_C p s m args c cX9_enter RX9 s0 b0 D ids := C
  show jv_V p l e (jv_rm 3 75 0 0) s m args below meth c 0 0 (jv_ZM below s0 D ids ex jv_SH (jv_qi Q) args s 0 0) s0 D ids ex jv_SH g 0 [some (.ref (s0.heap.size + (126 : Int).toNat)), some (jv_i a1), some (jv_i a2), some (jv_i a3), some (jv_i a4)] []
  unfold wp_X9_enter at h
  refine jv_aload_n C dX9_enter_0 rfl ?_
  refine jv_aload_n C dX9_enter_1 rfl ?_
  refine jv_iload_n C dX9_enter_2 rfl ?_
  refine jv_iload_n C dX9_enter_3 rfl ?_
  refine jv_iload_n C dX9_enter_4 rfl ?_
  refine jv_callVi C (M_X9_isCell h) kw_X9_168 sS_126 rfl rfl ⟨rfl, rfl⟩ (st := [.ref (s0.heap.size + (126 : Int).toNat)]) rfl rfl ⟨rfl, rfl⟩ dX9_enter_5 (fun r_5 g_5 h => ?_)
  have hJ41 : ∀ (y0_41 : Int) (gj_41 : jv_Mem), wB_X9_enter_41 a1 a2 a3 a4 Q y0_41 gj_41 → jv_V p l e (jv_rm 3 75 0 0) s m args below meth c 0 0 (jv_ZM below s0 D ids ex jv_SH (jv_qi Q) args s 0 0) s0 D ids ex jv_SH gj_41 41 [some (.ref (s0.heap.size + (126 : Int).toNat)), some (jv_i a1), some (jv_i a2), some (jv_i a3), some (jv_i a4)] [jv_i y0_41, .ref (s0.heap.size + (126 : Int).toNat)] := by
    intro y0_41 gj_41 h
    unfold wB_X9_enter_41 at h
    refine jv_puti C kf_X9_73 sS_126 rfl dX9_enter_41 (jv_gm (fun g_41 eg_41 => ?_))
    replace h := h g_41 eg_41
    refine jv_aload_n C dX9_enter_44 rfl ?_
    refine jv_geti C kf_X9_73 sS_126 rfl dX9_enter_45 ?_
    obtain ⟨hr_48, h1_48, h2_48⟩ := h
    refine jv_if_gt (tgt := 67) C hr_48 dX9_enter_48 rfl (fun hc_48 => ?_) (fun hc_48 => ?_)
    · replace h := h1_48 hc_48
      refine jv_const C dX9_enter_67 ?_
      exact jv_zret C hr hlk rfl ⟨_, rfl, h⟩ dX9_enter_68 ⟨rfl, rfl⟩
    · replace h := h2_48 hc_48
      refine jv_aload_n C dX9_enter_51 rfl ?_
      refine jv_getr C kf_X9_43 sS_126 rfl dX9_enter_52 ?_
      refine jv_bipush C dX9_enter_55 (by decide +kernel) ?_
      refine jv_iload_n C dX9_enter_57 rfl ?_
      refine jv_imul C dX9_enter_58 ?_
      refine jv_iload_n C dX9_enter_59 rfl ?_
      refine jv_iadd C dX9_enter_60 ?_
      obtain ⟨hb_61, h⟩ := h
      refine jv_iald C sS_138 rfl hb_61 dX9_enter_61 ?_
      refine jv_iload C dX9_enter_62 rfl ?_
      obtain ⟨hr_64, h1_64, h2_64⟩ := h
      refine jv_icmp_eq (tgt := 69) C hr_64.1 hr_64.2 dX9_enter_64 rfl (fun hc_64 => ?_) (fun hc_64 => ?_)
      · replace h := h1_64 hc_64
        refine jv_aload_n C dX9_enter_69 rfl ?_
        refine jv_getr C kf_X9_61 sS_126 rfl dX9_enter_70 ?_
        refine jv_sipush C dX9_enter_73 (by decide +kernel) ?_
        refine jv_iload_n C dX9_enter_76 rfl ?_
        refine jv_imul C dX9_enter_77 ?_
        refine jv_bipush C dX9_enter_78 (by decide +kernel) ?_
        refine jv_iload_n C dX9_enter_80 rfl ?_
        refine jv_imul C dX9_enter_81 ?_
        refine jv_iadd C dX9_enter_82 ?_
        refine jv_iload_n C dX9_enter_83 rfl ?_
        refine jv_iadd C dX9_enter_84 ?_
        refine jv_aload_n C dX9_enter_85 rfl ?_
        refine jv_geti C kf_X9_141 sS_126 rfl dX9_enter_86 ?_
        refine jv_const C dX9_enter_89 ?_
        refine jv_iadd C dX9_enter_90 ?_
        obtain ⟨hb_91, h⟩ := h
        refine jv_iast C sS_144 rfl hb_91 dX9_enter_91 (jv_gm (fun g_91 eg_91 => ?_))
        replace h := h g_91 eg_91
        refine jv_aload_n C dX9_enter_92 rfl ?_
        refine jv_iload_n C dX9_enter_93 rfl ?_
        refine jv_iload_n C dX9_enter_94 rfl ?_
        refine jv_callVv C (M_X9_counts h) kw_X9_174 sS_126 rfl rfl ⟨rfl, rfl⟩ (st := []) rfl rfl ⟨rfl, rfl⟩ dX9_enter_95 (fun g_95 h => ?_)
        refine jv_const C dX9_enter_98 ?_
        exact jv_zret C hr hlk rfl ⟨_, rfl, h⟩ dX9_enter_99 ⟨rfl, rfl⟩
      · replace h := h2_64 hc_64
        refine jv_const C dX9_enter_67 ?_
        exact jv_zret C hr hlk rfl ⟨_, rfl, h⟩ dX9_enter_68 ⟨rfl, rfl⟩
  have hJ22 : ∀ (gj_22 : jv_Mem), wB_X9_enter_22 a1 a2 a3 a4 Q gj_22 → jv_V p l e (jv_rm 3 75 0 0) s m args below meth c 0 0 (jv_ZM below s0 D ids ex jv_SH (jv_qi Q) args s 0 0) s0 D ids ex jv_SH gj_22 22 [some (.ref (s0.heap.size + (126 : Int).toNat)), some (jv_i a1), some (jv_i a2), some (jv_i a3), some (jv_i a4)] [.ref (s0.heap.size + (126 : Int).toNat)] := by
    intro gj_22 h
    unfold wB_X9_enter_22 at h
    refine jv_const C dX9_enter_22 ?_
    refine jv_goto (tgt := 41) C dX9_enter_23 rfl ?_
    exact jv_less (ls' := [some (.ref (s0.heap.size + (126 : Int).toNat)), some (jv_i a1), some (jv_i a2), some (jv_i a3), some (jv_i a4)]) ⟨rfl, ⟨rfl, ⟨rfl, ⟨rfl, ⟨rfl, trivial⟩⟩⟩⟩⟩ (hJ41 _ _ h)
  obtain ⟨hr_8, h1_8, h2_8⟩ := h
  refine jv_if_eq (tgt := 22) C hr_8 dX9_enter_8 rfl (fun hc_8 => ?_) (fun hc_8 => ?_)
  · replace h := h1_8 hc_8
    exact jv_less (ls' := [some (.ref (s0.heap.size + (126 : Int).toNat)), some (jv_i a1), some (jv_i a2), some (jv_i a3), some (jv_i a4)]) ⟨rfl, ⟨rfl, ⟨rfl, ⟨rfl, ⟨rfl, trivial⟩⟩⟩⟩⟩ (hJ22 _ h)
  · replace h := h2_8 hc_8
    refine jv_iload C dX9_enter_11 rfl ?_
    refine jv_const C dX9_enter_13 ?_
    refine jv_bipush C dX9_enter_14 (by decide +kernel) ?_
    refine jv_callSi C (M_X9_in h) kw_X9_80 rfl ⟨rfl, rfl⟩ (st := [.ref (s0.heap.size + (126 : Int).toNat)]) rfl rfl ⟨rfl, rfl⟩ dX9_enter_16 (fun r_16 g_16 h => ?_)
    obtain ⟨hr_19, h1_19, h2_19⟩ := h
    refine jv_if_ne (tgt := 26) C hr_19 dX9_enter_19 rfl (fun hc_19 => ?_) (fun hc_19 => ?_)
    · replace h := h1_19 hc_19
      refine jv_aload_n C dX9_enter_26 rfl ?_
      refine jv_iload_n C dX9_enter_27 rfl ?_
      refine jv_iload_n C dX9_enter_28 rfl ?_
      refine jv_iload_n C dX9_enter_29 rfl ?_
      refine jv_callVi C (M_X9_isOver h) kw_X9_171 sS_126 rfl rfl ⟨rfl, rfl⟩ (st := [.ref (s0.heap.size + (126 : Int).toNat)]) rfl rfl ⟨rfl, rfl⟩ dX9_enter_30 (fun r_30 g_30 h => ?_)
      obtain ⟨hr_33, h1_33, h2_33⟩ := h
      refine jv_if_eq (tgt := 40) C hr_33 dX9_enter_33 rfl (fun hc_33 => ?_) (fun hc_33 => ?_)
      · replace h := h1_33 hc_33
        refine jv_const C dX9_enter_40 ?_
        exact jv_less (ls' := [some (.ref (s0.heap.size + (126 : Int).toNat)), some (jv_i a1), some (jv_i a2), some (jv_i a3), some (jv_i a4)]) ⟨rfl, ⟨rfl, ⟨rfl, ⟨rfl, ⟨rfl, trivial⟩⟩⟩⟩⟩ (hJ41 _ _ h)
      · replace h := h2_33 hc_33
        refine jv_const C dX9_enter_36 ?_
        refine jv_goto (tgt := 41) C dX9_enter_37 rfl ?_
        exact jv_less (ls' := [some (.ref (s0.heap.size + (126 : Int).toNat)), some (jv_i a1), some (jv_i a2), some (jv_i a3), some (jv_i a4)]) ⟨rfl, ⟨rfl, ⟨rfl, ⟨rfl, ⟨rfl, trivial⟩⟩⟩⟩⟩ (hJ41 _ _ h)
    · replace h := h2_19 hc_19
      exact jv_less (ls' := [some (.ref (s0.heap.size + (126 : Int).toNat)), some (jv_i a1), some (jv_i a2), some (jv_i a3), some (jv_i a4)]) ⟨rfl, ⟨rfl, ⟨rfl, ⟨rfl, ⟨rfl, trivial⟩⟩⟩⟩⟩ (hJ22 _ h)

def wB_X9_help_70 (a1 : Int) (a2 : Int) (a3 : Int) (Q : Int → jv_Mem → Prop) (y0_70 : Int) (gj_70 : jv_Mem) : Prop :=
  (((0 : Int) ≤ a1 ∧ a1 < (6 : Int)) ∧ ((jv_r (gj_70 143 a1) ∧ jv_r y0_70) ∧ (y0_70 ≤ (gj_70 143 a1) → (((0 : Int) ≤ a1 ∧ a1 < (6 : Int)) ∧ (((0 : Int) ≤ a1 ∧ a1 < (6 : Int)) ∧ (∀ g_99 : jv_Mem, g_99 = jv_up gj_70 143 a1 ((gj_70 143 a1) - y0_70) → (((0 : Int) ≤ (20 * a1) + a2 ∧ (20 * a1) + a2 < (120 : Int)) ∧ (((0 : Int) ≤ (20 * a1) + a2 ∧ (20 * a1) + a2 < (120 : Int)) ∧ (∀ g_114 : jv_Mem, g_114 = jv_up g_99 146 ((20 * a1) + a2) ((g_99 146 ((20 * a1) + a2)) + 1) → (((0 : Int) ≤ ((180 * a1) + (9 * a2)) + a3 ∧ ((180 * a1) + (9 * a2)) + a3 < (1080 : Int)) ∧ (∀ g_133 : jv_Mem, g_133 = jv_up g_114 145 (((180 * a1) + (9 * a2)) + a3) y0_70 → (((0 : Int) ≤ ((180 * a1) + (9 * a2)) + a3 ∧ ((180 * a1) + (9 * a2)) + a3 < (1080 : Int)) ∧ (∀ g_156 : jv_Mem, g_156 = jv_up g_133 144 (((180 * a1) + (9 * a2)) + a3) ((g_133 126 15) + 1) → (wp_X9_counts a1 a2 (fun (g_160 : jv_Mem) => (((0 : Int) ≤ (9 * a2) + a3 ∧ (9 * a2) + a3 < (180 : Int)) ∧ Q (g_160 138 ((9 * a2) + a3)) g_160)) g_156)))))))))))) ∧ ((gj_70 143 a1) < y0_70 → (wp_X9_fails 2 (fun (r_85 : Int) (g_85 : jv_Mem) => Q r_85 g_85) gj_70))))
def wB_X9_help_30 (a1 : Int) (a2 : Int) (a3 : Int) (Q : Int → jv_Mem → Prop) (y0_30 : Int) (gj_30 : jv_Mem) : Prop :=
  (∀ g_30 : jv_Mem, g_30 = jv_up gj_30 126 29 y0_30 → ((jv_r (g_30 126 29)) ∧ ((g_30 126 29) ≤ 0 → (((0 : Int) ≤ (20 * a1) + a2 ∧ (20 * a1) + a2 < (120 : Int)) ∧ (∀ v4_53 : Int, v4_53 = g_30 146 ((20 * a1) + a2) → ((jv_r v4_53) ∧ (v4_53 ≤ 2 → wB_X9_help_70 a1 a2 a3 Q (jv_shl 5 v4_53) g_30) ∧ (2 < v4_53 → wB_X9_help_70 a1 a2 a3 Q 40 g_30))))) ∧ (0 < (g_30 126 29) → Q 0 g_30)))
def wp_X9_help (a1 : Int) (a2 : Int) (a3 : Int) (Q : Int → jv_Mem → Prop) (g : jv_Mem) : Prop :=
  (wp_X9_isCell a1 a2 a3 (fun (r_5 : Int) (g_5 : jv_Mem) => ((jv_r r_5) ∧ (¬ r_5 = 0 → (wp_X9_isOver a1 a2 a3 (fun (r_19 : Int) (g_19 : jv_Mem) => ((jv_r r_19) ∧ (r_19 = 0 → wB_X9_help_30 a1 a2 a3 Q 0 g_19) ∧ (¬ r_19 = 0 → wB_X9_help_30 a1 a2 a3 Q 2 g_19))) g_5)) ∧ (r_5 = 0 → wB_X9_help_30 a1 a2 a3 Q 1 g_5))) g)
set_option maxHeartbeats 4000000 in
set_option maxRecDepth 100000 in
theorem M_X9_help {l : Launch} {s0 : State} {b0 : Addr} {D : va_G} {ids : Nat → ClassId} {ex : Option Nat} {g : jv_Mem} {a1 : Int} {a2 : Int} {a3 : Int} {Q : Int → jv_Mem → Prop} (h : wp_X9_help a1 a2 a3 Q g) : jv_M l s0 b0 D ids yX9_help cX9_help 6 (some .int) 3 75 0 0 ex jv_SH g [.ref (s0.heap.size + (126 : Int).toNat), jv_i a1, jv_i a2, jv_i a3] ex jv_SH (jv_qi Q) := by
  refine jv_M.of (by decide +kernel) rfl rfl (fun p e s m args below meth c C hml hr hlk hnm => ?_)
  replace C : jv_C p s m args c cX9_help RX9 s0 b0 D ids := C
  show jv_V p l e (jv_rm 3 75 0 0) s m args below meth c 0 0 (jv_ZM below s0 D ids ex jv_SH (jv_qi Q) args s 0 0) s0 D ids ex jv_SH g 0 [some (.ref (s0.heap.size + (126 : Int).toNat)), some (jv_i a1), some (jv_i a2), some (jv_i a3), none, none] []
  unfold wp_X9_help at h
  refine jv_aload_n C dX9_help_0 rfl ?_
  refine jv_aload_n C dX9_help_1 rfl ?_
  refine jv_iload_n C dX9_help_2 rfl ?_
  refine jv_iload_n C dX9_help_3 rfl ?_
  refine jv_iload_n C dX9_help_4 rfl ?_
  refine jv_callVi C (M_X9_isCell h) kw_X9_168 sS_126 rfl rfl ⟨rfl, rfl⟩ (st := [.ref (s0.heap.size + (126 : Int).toNat)]) rfl rfl ⟨rfl, rfl⟩ dX9_help_5 (fun r_5 g_5 h => ?_)
  have hJ30 : ∀ (y0_30 : Int) (gj_30 : jv_Mem), wB_X9_help_30 a1 a2 a3 Q y0_30 gj_30 → jv_V p l e (jv_rm 3 75 0 0) s m args below meth c 0 0 (jv_ZM below s0 D ids ex jv_SH (jv_qi Q) args s 0 0) s0 D ids ex jv_SH gj_30 30 [some (.ref (s0.heap.size + (126 : Int).toNat)), some (jv_i a1), some (jv_i a2), some (jv_i a3), none, none] [jv_i y0_30, .ref (s0.heap.size + (126 : Int).toNat)] := by
    intro y0_30 gj_30 h
    unfold wB_X9_help_30 at h
    refine jv_puti C kf_X9_73 sS_126 rfl dX9_help_30 (jv_gm (fun g_30 eg_30 => ?_))
    replace h := h g_30 eg_30
    refine jv_aload_n C dX9_help_33 rfl ?_
    refine jv_geti C kf_X9_73 sS_126 rfl dX9_help_34 ?_
    obtain ⟨hr_37, h1_37, h2_37⟩ := h
    refine jv_if_le (tgt := 42) C hr_37 dX9_help_37 rfl (fun hc_37 => ?_) (fun hc_37 => ?_)
    · replace h := h1_37 hc_37
      refine jv_aload_n C dX9_help_42 rfl ?_
      refine jv_getr C kf_X9_67 sS_126 rfl dX9_help_43 ?_
      refine jv_bipush C dX9_help_46 (by decide +kernel) ?_
      refine jv_iload_n C dX9_help_48 rfl ?_
      refine jv_imul C dX9_help_49 ?_
      refine jv_iload_n C dX9_help_50 rfl ?_
      refine jv_iadd C dX9_help_51 ?_
      obtain ⟨hb_52, h⟩ := h
      refine jv_iald C sS_146 rfl hb_52 dX9_help_52 ?_
      refine jv_top (fun v4_53 ev4_53 => ?_)
      replace h := h v4_53 ev4_53
      refine jv_istore (ls' := [some (.ref (s0.heap.size + (126 : Int).toNat)), some (jv_i a1), some (jv_i a2), some (jv_i a3), some (jv_i v4_53), none]) C dX9_help_53 (Nat.lt_of_lt_of_eq (Nat.le_of_ble_eq_true rfl) hml) rfl ?_
      refine jv_iload C dX9_help_55 rfl ?_
      refine jv_const C dX9_help_57 ?_
      have hJ70 : ∀ (y0_70 : Int) (gj_70 : jv_Mem), wB_X9_help_70 a1 a2 a3 Q y0_70 gj_70 → jv_V p l e (jv_rm 3 75 0 0) s m args below meth c 0 0 (jv_ZM below s0 D ids ex jv_SH (jv_qi Q) args s 0 0) s0 D ids ex jv_SH gj_70 70 [some (.ref (s0.heap.size + (126 : Int).toNat)), some (jv_i a1), some (jv_i a2), some (jv_i a3), none, none] [jv_i y0_70] := by
        intro y0_70 gj_70 h
        unfold wB_X9_help_70 at h
        refine jv_istore (ls' := [some (.ref (s0.heap.size + (126 : Int).toNat)), some (jv_i a1), some (jv_i a2), some (jv_i a3), none, some (jv_i y0_70)]) C dX9_help_70 (Nat.lt_of_lt_of_eq (Nat.le_of_ble_eq_true rfl) hml) rfl ?_
        refine jv_aload_n C dX9_help_72 rfl ?_
        refine jv_getr C kf_X9_58 sS_126 rfl dX9_help_73 ?_
        refine jv_iload_n C dX9_help_76 rfl ?_
        obtain ⟨hb_77, h⟩ := h
        refine jv_iald C sS_143 rfl hb_77 dX9_help_77 ?_
        refine jv_iload C dX9_help_78 rfl ?_
        obtain ⟨hr_80, h1_80, h2_80⟩ := h
        refine jv_icmp_ge (tgt := 89) C hr_80.1 hr_80.2 dX9_help_80 rfl (fun hc_80 => ?_) (fun hc_80 => ?_)
        · replace h := h1_80 hc_80
          refine jv_aload_n C dX9_help_89 rfl ?_
          refine jv_getr C kf_X9_58 sS_126 rfl dX9_help_90 ?_
          refine jv_iload_n C dX9_help_93 rfl ?_
          refine jv_dup2 C rfl rfl dX9_help_94 ?_
          obtain ⟨hb_95, h⟩ := h
          refine jv_iald C sS_143 rfl hb_95 dX9_help_95 ?_
          refine jv_iload C dX9_help_96 rfl ?_
          refine jv_isub C dX9_help_98 ?_
          obtain ⟨hb_99, h⟩ := h
          refine jv_iast C sS_143 rfl hb_99 dX9_help_99 (jv_gm (fun g_99 eg_99 => ?_))
          replace h := h g_99 eg_99
          refine jv_aload_n C dX9_help_100 rfl ?_
          refine jv_getr C kf_X9_67 sS_126 rfl dX9_help_101 ?_
          refine jv_bipush C dX9_help_104 (by decide +kernel) ?_
          refine jv_iload_n C dX9_help_106 rfl ?_
          refine jv_imul C dX9_help_107 ?_
          refine jv_iload_n C dX9_help_108 rfl ?_
          refine jv_iadd C dX9_help_109 ?_
          refine jv_dup2 C rfl rfl dX9_help_110 ?_
          obtain ⟨hb_111, h⟩ := h
          refine jv_iald C sS_146 rfl hb_111 dX9_help_111 ?_
          refine jv_const C dX9_help_112 ?_
          refine jv_iadd C dX9_help_113 ?_
          obtain ⟨hb_114, h⟩ := h
          refine jv_iast C sS_146 rfl hb_114 dX9_help_114 (jv_gm (fun g_114 eg_114 => ?_))
          replace h := h g_114 eg_114
          refine jv_aload_n C dX9_help_115 rfl ?_
          refine jv_getr C kf_X9_64 sS_126 rfl dX9_help_116 ?_
          refine jv_sipush C dX9_help_119 (by decide +kernel) ?_
          refine jv_iload_n C dX9_help_122 rfl ?_
          refine jv_imul C dX9_help_123 ?_
          refine jv_bipush C dX9_help_124 (by decide +kernel) ?_
          refine jv_iload_n C dX9_help_126 rfl ?_
          refine jv_imul C dX9_help_127 ?_
          refine jv_iadd C dX9_help_128 ?_
          refine jv_iload_n C dX9_help_129 rfl ?_
          refine jv_iadd C dX9_help_130 ?_
          refine jv_iload C dX9_help_131 rfl ?_
          obtain ⟨hb_133, h⟩ := h
          refine jv_iast C sS_145 rfl hb_133 dX9_help_133 (jv_gm (fun g_133 eg_133 => ?_))
          replace h := h g_133 eg_133
          refine jv_aload_n C dX9_help_134 rfl ?_
          refine jv_getr C kf_X9_61 sS_126 rfl dX9_help_135 ?_
          refine jv_sipush C dX9_help_138 (by decide +kernel) ?_
          refine jv_iload_n C dX9_help_141 rfl ?_
          refine jv_imul C dX9_help_142 ?_
          refine jv_bipush C dX9_help_143 (by decide +kernel) ?_
          refine jv_iload_n C dX9_help_145 rfl ?_
          refine jv_imul C dX9_help_146 ?_
          refine jv_iadd C dX9_help_147 ?_
          refine jv_iload_n C dX9_help_148 rfl ?_
          refine jv_iadd C dX9_help_149 ?_
          refine jv_aload_n C dX9_help_150 rfl ?_
          refine jv_geti C kf_X9_141 sS_126 rfl dX9_help_151 ?_
          refine jv_const C dX9_help_154 ?_
          refine jv_iadd C dX9_help_155 ?_
          obtain ⟨hb_156, h⟩ := h
          refine jv_iast C sS_144 rfl hb_156 dX9_help_156 (jv_gm (fun g_156 eg_156 => ?_))
          replace h := h g_156 eg_156
          refine jv_aload_n C dX9_help_157 rfl ?_
          refine jv_iload_n C dX9_help_158 rfl ?_
          refine jv_iload_n C dX9_help_159 rfl ?_
          refine jv_callVv C (M_X9_counts h) kw_X9_174 sS_126 rfl rfl ⟨rfl, rfl⟩ (st := []) rfl rfl ⟨rfl, rfl⟩ dX9_help_160 (fun g_160 h => ?_)
          refine jv_aload_n C dX9_help_163 rfl ?_
          refine jv_getr C kf_X9_43 sS_126 rfl dX9_help_164 ?_
          refine jv_bipush C dX9_help_167 (by decide +kernel) ?_
          refine jv_iload_n C dX9_help_169 rfl ?_
          refine jv_imul C dX9_help_170 ?_
          refine jv_iload_n C dX9_help_171 rfl ?_
          refine jv_iadd C dX9_help_172 ?_
          obtain ⟨hb_173, h⟩ := h
          refine jv_iald C sS_138 rfl hb_173 dX9_help_173 ?_
          exact jv_iret C hr hlk ⟨_, rfl, h⟩ dX9_help_174 ⟨rfl, rfl⟩
        · replace h := h2_80 hc_80
          refine jv_aload_n C dX9_help_83 rfl ?_
          refine jv_const C dX9_help_84 ?_
          refine jv_callVi C (M_X9_fails h) kw_X9_97 sS_126 rfl rfl ⟨rfl, rfl⟩ (st := []) rfl rfl ⟨rfl, rfl⟩ dX9_help_85 (fun r_85 g_85 h => ?_)
          exact jv_iret C hr hlk ⟨_, rfl, h⟩ dX9_help_88 ⟨rfl, rfl⟩
      obtain ⟨hr_58, h1_58, h2_58⟩ := h
      refine jv_icmp_le (tgt := 66) C hr_58 ⟨by decide, by decide⟩ dX9_help_58 rfl (fun hc_58 => ?_) (fun hc_58 => ?_)
      · replace h := h1_58 hc_58
        refine jv_const C dX9_help_66 ?_
        refine jv_iload C dX9_help_67 rfl ?_
        refine jv_ishl C dX9_help_69 ?_
        exact jv_less (ls' := [some (.ref (s0.heap.size + (126 : Int).toNat)), some (jv_i a1), some (jv_i a2), some (jv_i a3), none, none]) ⟨rfl, ⟨rfl, ⟨rfl, ⟨rfl, trivial⟩⟩⟩⟩ (hJ70 _ _ h)
      · replace h := h2_58 hc_58
        refine jv_bipush C dX9_help_61 (by decide +kernel) ?_
        refine jv_goto (tgt := 70) C dX9_help_63 rfl ?_
        exact jv_less (ls' := [some (.ref (s0.heap.size + (126 : Int).toNat)), some (jv_i a1), some (jv_i a2), some (jv_i a3), none, none]) ⟨rfl, ⟨rfl, ⟨rfl, ⟨rfl, trivial⟩⟩⟩⟩ (hJ70 _ _ h)
    · replace h := h2_37 hc_37
      refine jv_const C dX9_help_40 ?_
      exact jv_iret C hr hlk ⟨_, rfl, h⟩ dX9_help_41 ⟨rfl, rfl⟩
  obtain ⟨hr_8, h1_8, h2_8⟩ := h
  refine jv_if_ne (tgt := 15) C hr_8 dX9_help_8 rfl (fun hc_8 => ?_) (fun hc_8 => ?_)
  · replace h := h1_8 hc_8
    refine jv_aload_n C dX9_help_15 rfl ?_
    refine jv_iload_n C dX9_help_16 rfl ?_
    refine jv_iload_n C dX9_help_17 rfl ?_
    refine jv_iload_n C dX9_help_18 rfl ?_
    refine jv_callVi C (M_X9_isOver h) kw_X9_171 sS_126 rfl rfl ⟨rfl, rfl⟩ (st := [.ref (s0.heap.size + (126 : Int).toNat)]) rfl rfl ⟨rfl, rfl⟩ dX9_help_19 (fun r_19 g_19 h => ?_)
    obtain ⟨hr_22, h1_22, h2_22⟩ := h
    refine jv_if_eq (tgt := 29) C hr_22 dX9_help_22 rfl (fun hc_22 => ?_) (fun hc_22 => ?_)
    · replace h := h1_22 hc_22
      refine jv_const C dX9_help_29 ?_
      exact jv_less (ls' := [some (.ref (s0.heap.size + (126 : Int).toNat)), some (jv_i a1), some (jv_i a2), some (jv_i a3), none, none]) ⟨rfl, ⟨rfl, ⟨rfl, ⟨rfl, trivial⟩⟩⟩⟩ (hJ30 _ _ h)
    · replace h := h2_22 hc_22
      refine jv_const C dX9_help_25 ?_
      refine jv_goto (tgt := 30) C dX9_help_26 rfl ?_
      exact jv_less (ls' := [some (.ref (s0.heap.size + (126 : Int).toNat)), some (jv_i a1), some (jv_i a2), some (jv_i a3), none, none]) ⟨rfl, ⟨rfl, ⟨rfl, ⟨rfl, trivial⟩⟩⟩⟩ (hJ30 _ _ h)
  · replace h := h2_8 hc_8
    refine jv_const C dX9_help_11 ?_
    refine jv_goto (tgt := 30) C dX9_help_12 rfl ?_
    exact jv_less (ls' := [some (.ref (s0.heap.size + (126 : Int).toNat)), some (jv_i a1), some (jv_i a2), some (jv_i a3), none, none]) ⟨rfl, ⟨rfl, ⟨rfl, ⟨rfl, trivial⟩⟩⟩⟩ (hJ30 _ _ h)

def wB_X9_streakOf_32 (a1 : Int) (Q : Int → jv_Mem → Prop) (r_6 : Int) (y0_32 : Int) (gj_32 : jv_Mem) : Prop :=
  (∀ v2_33 : Int, v2_33 = r_6 - y0_32 → jv_lp2 (fun (K36 : Int → Int → jv_Mem → Prop) (x2_36 x3_36 : Int) (gl_36 : jv_Mem) => ((jv_r x2_36) ∧ (x2_36 < 0 → Q x3_36 gl_36) ∧ (0 ≤ x2_36 → (((0 : Int) ≤ (1260 * a1) + x2_36 ∧ (1260 * a1) + x2_36 < (7560 : Int)) ∧ ((jv_r (gl_36 147 ((1260 * a1) + x2_36))) ∧ (¬ (gl_36 147 ((1260 * a1) + x2_36)) = 1 → Q x3_36 gl_36) ∧ ((gl_36 147 ((1260 * a1) + x2_36)) = 1 → (∀ v3_56 : Int, v3_56 = x3_36 + 1 → (∀ v2_59 : Int, v2_59 = x2_36 + (-1) → K36 v2_59 v3_56 gl_36)))))))) v2_33 0 gj_32)
def wp_X9_streakOf (a1 : Int) (Q : Int → jv_Mem → Prop) (g : jv_Mem) : Prop :=
  (wp_X9_dayOf a1 (g 126 15) (fun (r_6 : Int) (g_6 : jv_Mem) => (((0 : Int) ≤ (1260 * a1) + r_6 ∧ (1260 * a1) + r_6 < (7560 : Int)) ∧ ((jv_r (g_6 147 ((1260 * a1) + r_6))) ∧ (¬ (g_6 147 ((1260 * a1) + r_6)) = 1 → wB_X9_streakOf_32 a1 Q r_6 1 g_6) ∧ ((g_6 147 ((1260 * a1) + r_6)) = 1 → wB_X9_streakOf_32 a1 Q r_6 0 g_6)))) g)
set_option maxHeartbeats 4000000 in
set_option maxRecDepth 100000 in
theorem M_X9_streakOf {l : Launch} {s0 : State} {b0 : Addr} {D : va_G} {ids : Nat → ClassId} {ex : Option Nat} {g : jv_Mem} {a1 : Int} {Q : Int → jv_Mem → Prop} (h : wp_X9_streakOf a1 Q g) : jv_M l s0 b0 D ids yX9_streakOf cX9_streakOf 4 (some .int) 1 22 0 0 ex jv_SH g [.ref (s0.heap.size + (126 : Int).toNat), jv_i a1] ex jv_SH (jv_qi Q) := by
  refine jv_M.of (by decide +kernel) rfl rfl (fun p e s m args below meth c C hml hr hlk hnm => ?_)
  replace C : jv_C p s m args c cX9_streakOf RX9 s0 b0 D ids := C
  show jv_V p l e (jv_rm 1 22 0 0) s m args below meth c 0 0 (jv_ZM below s0 D ids ex jv_SH (jv_qi Q) args s 0 0) s0 D ids ex jv_SH g 0 [some (.ref (s0.heap.size + (126 : Int).toNat)), some (jv_i a1), none, none] []
  unfold wp_X9_streakOf at h
  refine jv_aload_n C dX9_streakOf_0 rfl ?_
  refine jv_iload_n C dX9_streakOf_1 rfl ?_
  refine jv_aload_n C dX9_streakOf_2 rfl ?_
  refine jv_geti C kf_X9_141 sS_126 rfl dX9_streakOf_3 ?_
  refine jv_callVi C (M_X9_dayOf h) kw_X9_162 sS_126 rfl rfl ⟨rfl, rfl⟩ (st := []) rfl rfl ⟨rfl, rfl⟩ dX9_streakOf_6 (fun r_6 g_6 h => ?_)
  refine jv_istore_n (ls' := [some (.ref (s0.heap.size + (126 : Int).toNat)), some (jv_i a1), some (jv_i r_6), none]) C dX9_streakOf_9 (Nat.lt_of_lt_of_eq (Nat.le_of_ble_eq_true rfl) hml) rfl ?_
  refine jv_iload_n C dX9_streakOf_10 rfl ?_
  refine jv_aload_n C dX9_streakOf_11 rfl ?_
  refine jv_getr C kf_X9_70 sS_126 rfl dX9_streakOf_12 ?_
  refine jv_sipush C dX9_streakOf_15 (by decide +kernel) ?_
  refine jv_iload_n C dX9_streakOf_18 rfl ?_
  refine jv_imul C dX9_streakOf_19 ?_
  refine jv_iload_n C dX9_streakOf_20 rfl ?_
  refine jv_iadd C dX9_streakOf_21 ?_
  obtain ⟨hb_22, h⟩ := h
  refine jv_iald C sS_147 rfl hb_22 dX9_streakOf_22 ?_
  refine jv_const C dX9_streakOf_23 ?_
  have hJ32 : ∀ (y0_32 : Int) (gj_32 : jv_Mem), wB_X9_streakOf_32 a1 Q r_6 y0_32 gj_32 → jv_V p l e (jv_rm 1 22 0 0) s m args below meth c 0 0 (jv_ZM below s0 D ids ex jv_SH (jv_qi Q) args s 0 0) s0 D ids ex jv_SH gj_32 32 [some (.ref (s0.heap.size + (126 : Int).toNat)), some (jv_i a1), none, none] [jv_i y0_32, jv_i r_6] := by
    intro y0_32 gj_32 h
    unfold wB_X9_streakOf_32 at h
    refine jv_isub C dX9_streakOf_32 ?_
    refine jv_top (fun v2_33 ev2_33 => ?_)
    replace h := h v2_33 ev2_33
    refine jv_istore_n (ls' := [some (.ref (s0.heap.size + (126 : Int).toNat)), some (jv_i a1), some (jv_i v2_33), none]) C dX9_streakOf_33 (Nat.lt_of_lt_of_eq (Nat.le_of_ble_eq_true rfl) hml) rfl ?_
    refine jv_const C dX9_streakOf_34 ?_
    refine jv_istore_n (ls' := [some (.ref (s0.heap.size + (126 : Int).toNat)), some (jv_i a1), some (jv_i v2_33), some (jv_i 0)]) C dX9_streakOf_35 (Nat.lt_of_lt_of_eq (Nat.le_of_ble_eq_true rfl) hml) rfl ?_
    refine jv_less (ls' := [some (.ref (s0.heap.size + (126 : Int).toNat)), some (jv_i a1), some (jv_i v2_33), some (jv_i 0)]) ⟨rfl, ⟨rfl, ⟨rfl, ⟨rfl, trivial⟩⟩⟩⟩ ?_
    refine jv_lp2.use h (fun (x2_36 x3_36 : Int) (gl_36 : jv_Mem) => jv_V p l e (jv_rm 1 22 0 0) s m args below meth c 0 0 (jv_ZM below s0 D ids ex jv_SH (jv_qi Q) args s 0 0) s0 D ids ex jv_SH gl_36 36 [some (.ref (s0.heap.size + (126 : Int).toNat)), some (jv_i a1), some (jv_i x2_36), some (jv_i x3_36)] []) ?_
    intro K36 hK36 x2_36 x3_36 gl_36 h
    refine jv_iload_n C dX9_streakOf_36 rfl ?_
    obtain ⟨hr_37, h1_37, h2_37⟩ := h
    refine jv_if_lt (tgt := 65) C hr_37 dX9_streakOf_37 rfl (fun hc_37 => ?_) (fun hc_37 => ?_)
    · replace h := h1_37 hc_37
      refine jv_iload_n C dX9_streakOf_65 rfl ?_
      exact jv_iret C hr hlk ⟨_, rfl, h⟩ dX9_streakOf_66 ⟨rfl, rfl⟩
    · replace h := h2_37 hc_37
      refine jv_aload_n C dX9_streakOf_40 rfl ?_
      refine jv_getr C kf_X9_70 sS_126 rfl dX9_streakOf_41 ?_
      refine jv_sipush C dX9_streakOf_44 (by decide +kernel) ?_
      refine jv_iload_n C dX9_streakOf_47 rfl ?_
      refine jv_imul C dX9_streakOf_48 ?_
      refine jv_iload_n C dX9_streakOf_49 rfl ?_
      refine jv_iadd C dX9_streakOf_50 ?_
      obtain ⟨hb_51, h⟩ := h
      refine jv_iald C sS_147 rfl hb_51 dX9_streakOf_51 ?_
      refine jv_const C dX9_streakOf_52 ?_
      obtain ⟨hr_53, h1_53, h2_53⟩ := h
      refine jv_icmp_ne (tgt := 65) C hr_53 ⟨by decide, by decide⟩ dX9_streakOf_53 rfl (fun hc_53 => ?_) (fun hc_53 => ?_)
      · replace h := h1_53 hc_53
        refine jv_iload_n C dX9_streakOf_65 rfl ?_
        exact jv_iret C hr hlk ⟨_, rfl, h⟩ dX9_streakOf_66 ⟨rfl, rfl⟩
      · replace h := h2_53 hc_53
        refine jv_iincn C dX9_streakOf_56 (Nat.lt_of_lt_of_eq (Nat.le_of_ble_eq_true rfl) hml) rfl (fun v3_56 ev3_56 => ?_)
        replace h := h v3_56 ev3_56
        refine jv_lset (ls' := [some (.ref (s0.heap.size + (126 : Int).toNat)), some (jv_i a1), some (jv_i x2_36), some (jv_i v3_56)]) rfl ?_
        refine jv_iincn C dX9_streakOf_59 (Nat.lt_of_lt_of_eq (Nat.le_of_ble_eq_true rfl) hml) rfl (fun v2_59 ev2_59 => ?_)
        replace h := h v2_59 ev2_59
        refine jv_lset (ls' := [some (.ref (s0.heap.size + (126 : Int).toNat)), some (jv_i a1), some (jv_i v2_59), some (jv_i v3_56)]) rfl ?_
        refine jv_goto (tgt := 36) C dX9_streakOf_62 rfl ?_
        exact jv_less (ls' := [some (.ref (s0.heap.size + (126 : Int).toNat)), some (jv_i a1), some (jv_i v2_59), some (jv_i v3_56)]) ⟨rfl, ⟨rfl, ⟨rfl, ⟨rfl, trivial⟩⟩⟩⟩ (hK36 _ _ _ h)
  obtain ⟨hr_24, h1_24, h2_24⟩ := h
  refine jv_icmp_ne (tgt := 31) C hr_24 ⟨by decide, by decide⟩ dX9_streakOf_24 rfl (fun hc_24 => ?_) (fun hc_24 => ?_)
  · replace h := h1_24 hc_24
    refine jv_const C dX9_streakOf_31 ?_
    exact jv_less (ls' := [some (.ref (s0.heap.size + (126 : Int).toNat)), some (jv_i a1), none, none]) ⟨rfl, ⟨rfl, trivial⟩⟩ (hJ32 _ _ h)
  · replace h := h2_24 hc_24
    refine jv_const C dX9_streakOf_27 ?_
    refine jv_goto (tgt := 32) C dX9_streakOf_28 rfl ?_
    exact jv_less (ls' := [some (.ref (s0.heap.size + (126 : Int).toNat)), some (jv_i a1), none, none]) ⟨rfl, ⟨rfl, trivial⟩⟩ (hJ32 _ _ h)

def wB_X9_judge_186 (K77 : Int → Int → jv_Mem → Prop) (x4_77 : Int) (x5_77 : Int) (y0_186 : Int) (gj_186 : jv_Mem) : Prop :=
  (∀ v4_187 : Int, v4_187 = x4_77 + y0_186 → (∀ v5_189 : Int, v5_189 = x5_77 + 1 → K77 v4_187 v5_189 gj_186))
def wB_X9_judge_155 (K97 : Int → jv_Mem → Prop) (x7_97 : Int) (gj_155 : jv_Mem) : Prop :=
  (∀ v7_155 : Int, v7_155 = x7_97 + 1 → K97 v7_155 gj_155)
def wB_X9_judge_41 (a1 : Int) (a2 : Int) (Q : Int → jv_Mem → Prop) (y0_41 : Int) (gj_41 : jv_Mem) : Prop :=
  (∀ g_41 : jv_Mem, g_41 = jv_up gj_41 126 29 y0_41 → ((jv_r (g_41 126 29)) ∧ ((g_41 126 29) ≤ 0 → (((0 : Int) ≤ a1 ∧ a1 < (20 : Int)) ∧ (((0 : Int) ≤ a1 ∧ a1 < (20 : Int)) ∧ (∀ g_64 : jv_Mem, g_64 = jv_up g_41 140 a1 (jv_or (g_41 140 a1) (jv_shl 1 a2)) → (wp_X9_openOf a1 (fun (r_67 : Int) (g_67 : jv_Mem) => jv_lp2 (fun (K77 : Int → Int → jv_Mem → Prop) (x4_77 x5_77 : Int) (gl_77 : jv_Mem) => ((jv_r x5_77 ∧ jv_r (gl_77 126 22)) ∧ ((gl_77 126 22) ≤ x5_77 → Q x4_77 gl_77) ∧ (x5_77 < (gl_77 126 22) → (wp_X9_streakOf x5_77 (fun (r_89 : Int) (g_89 : jv_Mem) => jv_lp1 (fun (K97 : Int → jv_Mem → Prop) (x7_97 : Int) (gl_97 : jv_Mem) => ((jv_r x7_97) ∧ (9 ≤ x7_97 → (wp_X9_counts x5_77 a1 (fun (g_165 : jv_Mem) => (wp_X9_streakOf x5_77 (fun (r_173 : Int) (g_173 : jv_Mem) => ((jv_r r_173 ∧ jv_r r_89) ∧ (r_173 ≤ r_89 → wB_X9_judge_186 K77 x4_77 x5_77 0 g_173) ∧ (r_89 < r_173 → wB_X9_judge_186 K77 x4_77 x5_77 1 g_173))) g_165)) gl_97)) ∧ (x7_97 < 9 → (∀ v8_118 : Int, v8_118 = ((180 * x5_77) + (9 * a1)) + x7_97 → ((jv_r (jv_and (jv_shr r_67 x7_97) 1)) ∧ (¬ (jv_and (jv_shr r_67 x7_97) 1) = 1 → wB_X9_judge_155 K97 x7_97 gl_97) ∧ ((jv_and (jv_shr r_67 x7_97) 1) = 1 → (((0 : Int) ≤ x5_77 ∧ x5_77 < (6 : Int)) ∧ (((0 : Int) ≤ v8_118 ∧ v8_118 < (1080 : Int)) ∧ (((0 : Int) ≤ x5_77 ∧ x5_77 < (6 : Int)) ∧ (∀ g_146 : jv_Mem, g_146 = jv_up gl_97 143 x5_77 ((gl_97 143 x5_77) + (gl_97 145 v8_118)) → (((0 : Int) ≤ v8_118 ∧ v8_118 < (1080 : Int)) ∧ (∀ g_154 : jv_Mem, g_154 = jv_up g_146 145 v8_118 0 → wB_X9_judge_155 K97 x7_97 g_154)))))))))))) 0 g_89) gl_77)))) 0 0 g_67) g_64))))) ∧ (0 < (g_41 126 29) → Q 0 g_41)))
def wB_X9_judge_18 (a1 : Int) (a2 : Int) (Q : Int → jv_Mem → Prop) (gj_18 : jv_Mem) : Prop :=
  wB_X9_judge_41 a1 a2 Q 1 gj_18
def wp_X9_judge (a1 : Int) (a2 : Int) (Q : Int → jv_Mem → Prop) (g : jv_Mem) : Prop :=
  (wp_X9_isPuzzle a1 (fun (r_3 : Int) (g_3 : jv_Mem) => ((jv_r r_3) ∧ (r_3 = 0 → wB_X9_judge_18 a1 a2 Q g_3) ∧ (¬ r_3 = 0 → (wp_X9_in a2 0 5 (fun (r_12 : Int) (g_12 : jv_Mem) => ((jv_r r_12) ∧ (¬ r_12 = 0 → (((0 : Int) ≤ a1 ∧ a1 < (20 : Int)) ∧ ((jv_r (jv_and (jv_shr (g_12 140 a1) a2) 1)) ∧ (¬ (jv_and (jv_shr (g_12 140 a1) a2) 1) = 1 → wB_X9_judge_41 a1 a2 Q 0 g_12) ∧ ((jv_and (jv_shr (g_12 140 a1) a2) 1) = 1 → wB_X9_judge_41 a1 a2 Q 2 g_12)))) ∧ (r_12 = 0 → wB_X9_judge_18 a1 a2 Q g_12))) g_3)))) g)
set_option maxHeartbeats 4000000 in
set_option maxRecDepth 100000 in
theorem M_X9_judge {l : Launch} {s0 : State} {b0 : Addr} {D : va_G} {ids : Nat → ClassId} {ex : Option Nat} {g : jv_Mem} {a1 : Int} {a2 : Int} {Q : Int → jv_Mem → Prop} (h : wp_X9_judge a1 a2 Q g) : jv_M l s0 b0 D ids yX9_judge cX9_judge 9 (some .int) 3 75 0 0 ex jv_SH g [.ref (s0.heap.size + (126 : Int).toNat), jv_i a1, jv_i a2] ex jv_SH (jv_qi Q) := by
  refine jv_M.of (by decide +kernel) rfl rfl (fun p e s m args below meth c C hml hr hlk hnm => ?_)
  replace C : jv_C p s m args c cX9_judge RX9 s0 b0 D ids := C
  show jv_V p l e (jv_rm 3 75 0 0) s m args below meth c 0 0 (jv_ZM below s0 D ids ex jv_SH (jv_qi Q) args s 0 0) s0 D ids ex jv_SH g 0 [some (.ref (s0.heap.size + (126 : Int).toNat)), some (jv_i a1), some (jv_i a2), none, none, none, none, none, none] []
  unfold wp_X9_judge at h
  refine jv_aload_n C dX9_judge_0 rfl ?_
  refine jv_aload_n C dX9_judge_1 rfl ?_
  refine jv_iload_n C dX9_judge_2 rfl ?_
  refine jv_callVi C (M_X9_isPuzzle h) kw_X9_150 sS_126 rfl rfl ⟨rfl, rfl⟩ (st := [.ref (s0.heap.size + (126 : Int).toNat)]) rfl rfl ⟨rfl, rfl⟩ dX9_judge_3 (fun r_3 g_3 h => ?_)
  have hJ41 : ∀ (y0_41 : Int) (gj_41 : jv_Mem), wB_X9_judge_41 a1 a2 Q y0_41 gj_41 → jv_V p l e (jv_rm 3 75 0 0) s m args below meth c 0 0 (jv_ZM below s0 D ids ex jv_SH (jv_qi Q) args s 0 0) s0 D ids ex jv_SH gj_41 41 [some (.ref (s0.heap.size + (126 : Int).toNat)), some (jv_i a1), some (jv_i a2), none, none, none, none, none, none] [jv_i y0_41, .ref (s0.heap.size + (126 : Int).toNat)] := by
    intro y0_41 gj_41 h
    unfold wB_X9_judge_41 at h
    refine jv_puti C kf_X9_73 sS_126 rfl dX9_judge_41 (jv_gm (fun g_41 eg_41 => ?_))
    replace h := h g_41 eg_41
    refine jv_aload_n C dX9_judge_44 rfl ?_
    refine jv_geti C kf_X9_73 sS_126 rfl dX9_judge_45 ?_
    obtain ⟨hr_48, h1_48, h2_48⟩ := h
    refine jv_if_le (tgt := 53) C hr_48 dX9_judge_48 rfl (fun hc_48 => ?_) (fun hc_48 => ?_)
    · replace h := h1_48 hc_48
      refine jv_aload_n C dX9_judge_53 rfl ?_
      refine jv_getr C kf_X9_49 sS_126 rfl dX9_judge_54 ?_
      refine jv_iload_n C dX9_judge_57 rfl ?_
      refine jv_dup2 C rfl rfl dX9_judge_58 ?_
      obtain ⟨hb_59, h⟩ := h
      refine jv_iald C sS_140 rfl hb_59 dX9_judge_59 ?_
      refine jv_const C dX9_judge_60 ?_
      refine jv_iload_n C dX9_judge_61 rfl ?_
      refine jv_ishl C dX9_judge_62 ?_
      refine jv_ior C dX9_judge_63 ?_
      obtain ⟨hb_64, h⟩ := h
      refine jv_iast C sS_140 rfl hb_64 dX9_judge_64 (jv_gm (fun g_64 eg_64 => ?_))
      replace h := h g_64 eg_64
      refine jv_aload_n C dX9_judge_65 rfl ?_
      refine jv_iload_n C dX9_judge_66 rfl ?_
      refine jv_callVi C (M_X9_openOf h) kw_X9_156 sS_126 rfl rfl ⟨rfl, rfl⟩ (st := []) rfl rfl ⟨rfl, rfl⟩ dX9_judge_67 (fun r_67 g_67 h => ?_)
      refine jv_istore_n (ls' := [some (.ref (s0.heap.size + (126 : Int).toNat)), some (jv_i a1), some (jv_i a2), some (jv_i r_67), none, none, none, none, none]) C dX9_judge_70 (Nat.lt_of_lt_of_eq (Nat.le_of_ble_eq_true rfl) hml) rfl ?_
      refine jv_const C dX9_judge_71 ?_
      refine jv_istore (ls' := [some (.ref (s0.heap.size + (126 : Int).toNat)), some (jv_i a1), some (jv_i a2), some (jv_i r_67), some (jv_i 0), none, none, none, none]) C dX9_judge_72 (Nat.lt_of_lt_of_eq (Nat.le_of_ble_eq_true rfl) hml) rfl ?_
      refine jv_const C dX9_judge_74 ?_
      refine jv_istore (ls' := [some (.ref (s0.heap.size + (126 : Int).toNat)), some (jv_i a1), some (jv_i a2), some (jv_i r_67), some (jv_i 0), some (jv_i 0), none, none, none]) C dX9_judge_75 (Nat.lt_of_lt_of_eq (Nat.le_of_ble_eq_true rfl) hml) rfl ?_
      refine jv_less (ls' := [some (.ref (s0.heap.size + (126 : Int).toNat)), some (jv_i a1), none, some (jv_i r_67), some (jv_i 0), some (jv_i 0), none, none, none]) ⟨rfl, ⟨rfl, ⟨rfl, ⟨rfl, ⟨rfl, trivial⟩⟩⟩⟩⟩ ?_
      refine jv_lp2.use h (fun (x4_77 x5_77 : Int) (gl_77 : jv_Mem) => jv_V p l e (jv_rm 3 75 0 0) s m args below meth c 0 0 (jv_ZM below s0 D ids ex jv_SH (jv_qi Q) args s 0 0) s0 D ids ex jv_SH gl_77 77 [some (.ref (s0.heap.size + (126 : Int).toNat)), some (jv_i a1), none, some (jv_i r_67), some (jv_i x4_77), some (jv_i x5_77), none, none, none] []) ?_
      intro K77 hK77 x4_77 x5_77 gl_77 h
      refine jv_iload C dX9_judge_77 rfl ?_
      refine jv_aload_n C dX9_judge_79 rfl ?_
      refine jv_geti C kf_X9_153 sS_126 rfl dX9_judge_80 ?_
      obtain ⟨hr_83, h1_83, h2_83⟩ := h
      refine jv_icmp_ge (tgt := 195) C hr_83.1 hr_83.2 dX9_judge_83 rfl (fun hc_83 => ?_) (fun hc_83 => ?_)
      · replace h := h1_83 hc_83
        refine jv_iload C dX9_judge_195 rfl ?_
        exact jv_iret C hr hlk ⟨_, rfl, h⟩ dX9_judge_197 ⟨rfl, rfl⟩
      · replace h := h2_83 hc_83
        refine jv_aload_n C dX9_judge_86 rfl ?_
        refine jv_iload C dX9_judge_87 rfl ?_
        refine jv_callVi C (M_X9_streakOf h) kw_X9_178 sS_126 rfl rfl ⟨rfl, rfl⟩ (st := []) rfl rfl ⟨rfl, rfl⟩ dX9_judge_89 (fun r_89 g_89 h => ?_)
        refine jv_istore (ls' := [some (.ref (s0.heap.size + (126 : Int).toNat)), some (jv_i a1), none, some (jv_i r_67), some (jv_i x4_77), some (jv_i x5_77), some (jv_i r_89), none, none]) C dX9_judge_92 (Nat.lt_of_lt_of_eq (Nat.le_of_ble_eq_true rfl) hml) rfl ?_
        refine jv_const C dX9_judge_94 ?_
        refine jv_istore (ls' := [some (.ref (s0.heap.size + (126 : Int).toNat)), some (jv_i a1), none, some (jv_i r_67), some (jv_i x4_77), some (jv_i x5_77), some (jv_i r_89), some (jv_i 0), none]) C dX9_judge_95 (Nat.lt_of_lt_of_eq (Nat.le_of_ble_eq_true rfl) hml) rfl ?_
        refine jv_less (ls' := [some (.ref (s0.heap.size + (126 : Int).toNat)), some (jv_i a1), none, some (jv_i r_67), some (jv_i x4_77), some (jv_i x5_77), some (jv_i r_89), some (jv_i 0), none]) ⟨rfl, ⟨rfl, ⟨rfl, ⟨rfl, ⟨rfl, ⟨rfl, ⟨rfl, trivial⟩⟩⟩⟩⟩⟩⟩ ?_
        refine jv_lp1.use h (fun (x7_97 : Int) (gl_97 : jv_Mem) => jv_V p l e (jv_rm 3 75 0 0) s m args below meth c 0 0 (jv_ZM below s0 D ids ex jv_SH (jv_qi Q) args s 0 0) s0 D ids ex jv_SH gl_97 97 [some (.ref (s0.heap.size + (126 : Int).toNat)), some (jv_i a1), none, some (jv_i r_67), some (jv_i x4_77), some (jv_i x5_77), some (jv_i r_89), some (jv_i x7_97), none] []) ?_
        intro K97 hK97 x7_97 gl_97 h
        refine jv_iload C dX9_judge_97 rfl ?_
        refine jv_bipush C dX9_judge_99 (by decide +kernel) ?_
        obtain ⟨hr_101, h1_101, h2_101⟩ := h
        refine jv_icmp_ge (tgt := 161) C hr_101 ⟨by decide, by decide⟩ dX9_judge_101 rfl (fun hc_101 => ?_) (fun hc_101 => ?_)
        · replace h := h1_101 hc_101
          refine jv_aload_n C dX9_judge_161 rfl ?_
          refine jv_iload C dX9_judge_162 rfl ?_
          refine jv_iload_n C dX9_judge_164 rfl ?_
          refine jv_callVv C (M_X9_counts h) kw_X9_174 sS_126 rfl rfl ⟨rfl, rfl⟩ (st := []) rfl rfl ⟨rfl, rfl⟩ dX9_judge_165 (fun g_165 h => ?_)
          refine jv_iload C dX9_judge_168 rfl ?_
          refine jv_aload_n C dX9_judge_170 rfl ?_
          refine jv_iload C dX9_judge_171 rfl ?_
          refine jv_callVi C (M_X9_streakOf h) kw_X9_178 sS_126 rfl rfl ⟨rfl, rfl⟩ (st := [jv_i x4_77]) rfl rfl ⟨rfl, rfl⟩ dX9_judge_173 (fun r_173 g_173 h => ?_)
          refine jv_iload C dX9_judge_176 rfl ?_
          have hJ186 : ∀ (y0_186 : Int) (gj_186 : jv_Mem), wB_X9_judge_186 K77 x4_77 x5_77 y0_186 gj_186 → jv_V p l e (jv_rm 3 75 0 0) s m args below meth c 0 0 (jv_ZM below s0 D ids ex jv_SH (jv_qi Q) args s 0 0) s0 D ids ex jv_SH gj_186 186 [some (.ref (s0.heap.size + (126 : Int).toNat)), some (jv_i a1), none, some (jv_i r_67), none, some (jv_i x5_77), none, none, none] [jv_i y0_186, jv_i x4_77] := by
            intro y0_186 gj_186 h
            unfold wB_X9_judge_186 at h
            refine jv_iadd C dX9_judge_186 ?_
            refine jv_top (fun v4_187 ev4_187 => ?_)
            replace h := h v4_187 ev4_187
            refine jv_istore (ls' := [some (.ref (s0.heap.size + (126 : Int).toNat)), some (jv_i a1), none, some (jv_i r_67), some (jv_i v4_187), some (jv_i x5_77), none, none, none]) C dX9_judge_187 (Nat.lt_of_lt_of_eq (Nat.le_of_ble_eq_true rfl) hml) rfl ?_
            refine jv_iincn C dX9_judge_189 (Nat.lt_of_lt_of_eq (Nat.le_of_ble_eq_true rfl) hml) rfl (fun v5_189 ev5_189 => ?_)
            replace h := h v5_189 ev5_189
            refine jv_lset (ls' := [some (.ref (s0.heap.size + (126 : Int).toNat)), some (jv_i a1), none, some (jv_i r_67), some (jv_i v4_187), some (jv_i v5_189), none, none, none]) rfl ?_
            refine jv_goto (tgt := 77) C dX9_judge_192 rfl ?_
            exact jv_less (ls' := [some (.ref (s0.heap.size + (126 : Int).toNat)), some (jv_i a1), none, some (jv_i r_67), some (jv_i v4_187), some (jv_i v5_189), none, none, none]) ⟨rfl, ⟨rfl, ⟨rfl, ⟨rfl, ⟨rfl, trivial⟩⟩⟩⟩⟩ (hK77 _ _ _ h)
          obtain ⟨hr_178, h1_178, h2_178⟩ := h
          refine jv_icmp_le (tgt := 185) C hr_178.1 hr_178.2 dX9_judge_178 rfl (fun hc_178 => ?_) (fun hc_178 => ?_)
          · replace h := h1_178 hc_178
            refine jv_const C dX9_judge_185 ?_
            exact jv_less (ls' := [some (.ref (s0.heap.size + (126 : Int).toNat)), some (jv_i a1), none, some (jv_i r_67), none, some (jv_i x5_77), none, none, none]) ⟨rfl, ⟨rfl, ⟨rfl, ⟨rfl, trivial⟩⟩⟩⟩ (hJ186 _ _ h)
          · replace h := h2_178 hc_178
            refine jv_const C dX9_judge_181 ?_
            refine jv_goto (tgt := 186) C dX9_judge_182 rfl ?_
            exact jv_less (ls' := [some (.ref (s0.heap.size + (126 : Int).toNat)), some (jv_i a1), none, some (jv_i r_67), none, some (jv_i x5_77), none, none, none]) ⟨rfl, ⟨rfl, ⟨rfl, ⟨rfl, trivial⟩⟩⟩⟩ (hJ186 _ _ h)
        · replace h := h2_101 hc_101
          refine jv_sipush C dX9_judge_104 (by decide +kernel) ?_
          refine jv_iload C dX9_judge_107 rfl ?_
          refine jv_imul C dX9_judge_109 ?_
          refine jv_bipush C dX9_judge_110 (by decide +kernel) ?_
          refine jv_iload_n C dX9_judge_112 rfl ?_
          refine jv_imul C dX9_judge_113 ?_
          refine jv_iadd C dX9_judge_114 ?_
          refine jv_iload C dX9_judge_115 rfl ?_
          refine jv_iadd C dX9_judge_117 ?_
          refine jv_top (fun v8_118 ev8_118 => ?_)
          replace h := h v8_118 ev8_118
          refine jv_istore (ls' := [some (.ref (s0.heap.size + (126 : Int).toNat)), some (jv_i a1), none, some (jv_i r_67), some (jv_i x4_77), some (jv_i x5_77), some (jv_i r_89), some (jv_i x7_97), some (jv_i v8_118)]) C dX9_judge_118 (Nat.lt_of_lt_of_eq (Nat.le_of_ble_eq_true rfl) hml) rfl ?_
          refine jv_iload_n C dX9_judge_120 rfl ?_
          refine jv_iload C dX9_judge_121 rfl ?_
          refine jv_ishr C dX9_judge_123 ?_
          refine jv_const C dX9_judge_124 ?_
          refine jv_iand C dX9_judge_125 ?_
          refine jv_const C dX9_judge_126 ?_
          have hJ155 : ∀ (gj_155 : jv_Mem), wB_X9_judge_155 K97 x7_97 gj_155 → jv_V p l e (jv_rm 3 75 0 0) s m args below meth c 0 0 (jv_ZM below s0 D ids ex jv_SH (jv_qi Q) args s 0 0) s0 D ids ex jv_SH gj_155 155 [some (.ref (s0.heap.size + (126 : Int).toNat)), some (jv_i a1), none, some (jv_i r_67), some (jv_i x4_77), some (jv_i x5_77), some (jv_i r_89), some (jv_i x7_97), none] [] := by
            intro gj_155 h
            unfold wB_X9_judge_155 at h
            refine jv_iincn C dX9_judge_155 (Nat.lt_of_lt_of_eq (Nat.le_of_ble_eq_true rfl) hml) rfl (fun v7_155 ev7_155 => ?_)
            replace h := h v7_155 ev7_155
            refine jv_lset (ls' := [some (.ref (s0.heap.size + (126 : Int).toNat)), some (jv_i a1), none, some (jv_i r_67), some (jv_i x4_77), some (jv_i x5_77), some (jv_i r_89), some (jv_i v7_155), none]) rfl ?_
            refine jv_goto (tgt := 97) C dX9_judge_158 rfl ?_
            exact jv_less (ls' := [some (.ref (s0.heap.size + (126 : Int).toNat)), some (jv_i a1), none, some (jv_i r_67), some (jv_i x4_77), some (jv_i x5_77), some (jv_i r_89), some (jv_i v7_155), none]) ⟨rfl, ⟨rfl, ⟨rfl, ⟨rfl, ⟨rfl, ⟨rfl, ⟨rfl, trivial⟩⟩⟩⟩⟩⟩⟩ (hK97 _ _ h)
          obtain ⟨hr_127, h1_127, h2_127⟩ := h
          refine jv_icmp_ne (tgt := 155) C hr_127 ⟨by decide, by decide⟩ dX9_judge_127 rfl (fun hc_127 => ?_) (fun hc_127 => ?_)
          · replace h := h1_127 hc_127
            exact jv_less (ls' := [some (.ref (s0.heap.size + (126 : Int).toNat)), some (jv_i a1), none, some (jv_i r_67), some (jv_i x4_77), some (jv_i x5_77), some (jv_i r_89), some (jv_i x7_97), none]) ⟨rfl, ⟨rfl, ⟨rfl, ⟨rfl, ⟨rfl, ⟨rfl, ⟨rfl, trivial⟩⟩⟩⟩⟩⟩⟩ (hJ155 _ h)
          · replace h := h2_127 hc_127
            refine jv_aload_n C dX9_judge_130 rfl ?_
            refine jv_getr C kf_X9_58 sS_126 rfl dX9_judge_131 ?_
            refine jv_iload C dX9_judge_134 rfl ?_
            refine jv_dup2 C rfl rfl dX9_judge_136 ?_
            obtain ⟨hb_137, h⟩ := h
            refine jv_iald C sS_143 rfl hb_137 dX9_judge_137 ?_
            refine jv_aload_n C dX9_judge_138 rfl ?_
            refine jv_getr C kf_X9_64 sS_126 rfl dX9_judge_139 ?_
            refine jv_iload C dX9_judge_142 rfl ?_
            obtain ⟨hb_144, h⟩ := h
            refine jv_iald C sS_145 rfl hb_144 dX9_judge_144 ?_
            refine jv_iadd C dX9_judge_145 ?_
            obtain ⟨hb_146, h⟩ := h
            refine jv_iast C sS_143 rfl hb_146 dX9_judge_146 (jv_gm (fun g_146 eg_146 => ?_))
            replace h := h g_146 eg_146
            refine jv_aload_n C dX9_judge_147 rfl ?_
            refine jv_getr C kf_X9_64 sS_126 rfl dX9_judge_148 ?_
            refine jv_iload C dX9_judge_151 rfl ?_
            refine jv_const C dX9_judge_153 ?_
            obtain ⟨hb_154, h⟩ := h
            refine jv_iast C sS_145 rfl hb_154 dX9_judge_154 (jv_gm (fun g_154 eg_154 => ?_))
            replace h := h g_154 eg_154
            exact jv_less (ls' := [some (.ref (s0.heap.size + (126 : Int).toNat)), some (jv_i a1), none, some (jv_i r_67), some (jv_i x4_77), some (jv_i x5_77), some (jv_i r_89), some (jv_i x7_97), none]) ⟨rfl, ⟨rfl, ⟨rfl, ⟨rfl, ⟨rfl, ⟨rfl, ⟨rfl, trivial⟩⟩⟩⟩⟩⟩⟩ (hJ155 _ h)
    · replace h := h2_48 hc_48
      refine jv_const C dX9_judge_51 ?_
      exact jv_iret C hr hlk ⟨_, rfl, h⟩ dX9_judge_52 ⟨rfl, rfl⟩
  have hJ18 : ∀ (gj_18 : jv_Mem), wB_X9_judge_18 a1 a2 Q gj_18 → jv_V p l e (jv_rm 3 75 0 0) s m args below meth c 0 0 (jv_ZM below s0 D ids ex jv_SH (jv_qi Q) args s 0 0) s0 D ids ex jv_SH gj_18 18 [some (.ref (s0.heap.size + (126 : Int).toNat)), some (jv_i a1), some (jv_i a2), none, none, none, none, none, none] [.ref (s0.heap.size + (126 : Int).toNat)] := by
    intro gj_18 h
    unfold wB_X9_judge_18 at h
    refine jv_const C dX9_judge_18 ?_
    refine jv_goto (tgt := 41) C dX9_judge_19 rfl ?_
    exact jv_less (ls' := [some (.ref (s0.heap.size + (126 : Int).toNat)), some (jv_i a1), some (jv_i a2), none, none, none, none, none, none]) ⟨rfl, ⟨rfl, ⟨rfl, trivial⟩⟩⟩ (hJ41 _ _ h)
  obtain ⟨hr_6, h1_6, h2_6⟩ := h
  refine jv_if_eq (tgt := 18) C hr_6 dX9_judge_6 rfl (fun hc_6 => ?_) (fun hc_6 => ?_)
  · replace h := h1_6 hc_6
    exact jv_less (ls' := [some (.ref (s0.heap.size + (126 : Int).toNat)), some (jv_i a1), some (jv_i a2), none, none, none, none, none, none]) ⟨rfl, ⟨rfl, ⟨rfl, trivial⟩⟩⟩ (hJ18 _ h)
  · replace h := h2_6 hc_6
    refine jv_iload_n C dX9_judge_9 rfl ?_
    refine jv_const C dX9_judge_10 ?_
    refine jv_const C dX9_judge_11 ?_
    refine jv_callSi C (M_X9_in h) kw_X9_80 rfl ⟨rfl, rfl⟩ (st := [.ref (s0.heap.size + (126 : Int).toNat)]) rfl rfl ⟨rfl, rfl⟩ dX9_judge_12 (fun r_12 g_12 h => ?_)
    obtain ⟨hr_15, h1_15, h2_15⟩ := h
    refine jv_if_ne (tgt := 22) C hr_15 dX9_judge_15 rfl (fun hc_15 => ?_) (fun hc_15 => ?_)
    · replace h := h1_15 hc_15
      refine jv_aload_n C dX9_judge_22 rfl ?_
      refine jv_getr C kf_X9_49 sS_126 rfl dX9_judge_23 ?_
      refine jv_iload_n C dX9_judge_26 rfl ?_
      obtain ⟨hb_27, h⟩ := h
      refine jv_iald C sS_140 rfl hb_27 dX9_judge_27 ?_
      refine jv_iload_n C dX9_judge_28 rfl ?_
      refine jv_ishr C dX9_judge_29 ?_
      refine jv_const C dX9_judge_30 ?_
      refine jv_iand C dX9_judge_31 ?_
      refine jv_const C dX9_judge_32 ?_
      obtain ⟨hr_33, h1_33, h2_33⟩ := h
      refine jv_icmp_ne (tgt := 40) C hr_33 ⟨by decide, by decide⟩ dX9_judge_33 rfl (fun hc_33 => ?_) (fun hc_33 => ?_)
      · replace h := h1_33 hc_33
        refine jv_const C dX9_judge_40 ?_
        exact jv_less (ls' := [some (.ref (s0.heap.size + (126 : Int).toNat)), some (jv_i a1), some (jv_i a2), none, none, none, none, none, none]) ⟨rfl, ⟨rfl, ⟨rfl, trivial⟩⟩⟩ (hJ41 _ _ h)
      · replace h := h2_33 hc_33
        refine jv_const C dX9_judge_36 ?_
        refine jv_goto (tgt := 41) C dX9_judge_37 rfl ?_
        exact jv_less (ls' := [some (.ref (s0.heap.size + (126 : Int).toNat)), some (jv_i a1), some (jv_i a2), none, none, none, none, none, none]) ⟨rfl, ⟨rfl, ⟨rfl, trivial⟩⟩⟩ (hJ41 _ _ h)
    · replace h := h2_15 hc_15
      exact jv_less (ls' := [some (.ref (s0.heap.size + (126 : Int).toNat)), some (jv_i a1), some (jv_i a2), none, none, none, none, none, none]) ⟨rfl, ⟨rfl, ⟨rfl, trivial⟩⟩⟩ (hJ18 _ h)

def wB_X9_solvedAt_22 (a1 : Int) (a2 : Int) (Q : Int → jv_Mem → Prop) (y0_22 : Int) (gj_22 : jv_Mem) : Prop :=
  (∀ g_22 : jv_Mem, g_22 = jv_up gj_22 126 29 y0_22 → ((jv_r (g_22 126 29)) ∧ (¬ (g_22 126 29) = 0 → Q 0 g_22) ∧ ((g_22 126 29) = 0 → (wp_X9_solved a1 a2 (fun (r_35 : Int) (g_35 : jv_Mem) => Q r_35 g_35) g_22))))
def wB_X9_solvedAt_21 (a1 : Int) (a2 : Int) (Q : Int → jv_Mem → Prop) (gj_21 : jv_Mem) : Prop :=
  wB_X9_solvedAt_22 a1 a2 Q 1 gj_21
def wp_X9_solvedAt (a1 : Int) (a2 : Int) (Q : Int → jv_Mem → Prop) (g : jv_Mem) : Prop :=
  (wp_X9_isSolver a1 (fun (r_3 : Int) (g_3 : jv_Mem) => ((jv_r r_3) ∧ (r_3 = 0 → wB_X9_solvedAt_21 a1 a2 Q g_3) ∧ (¬ r_3 = 0 → (wp_X9_isPuzzle a2 (fun (r_11 : Int) (g_11 : jv_Mem) => ((jv_r r_11) ∧ (r_11 = 0 → wB_X9_solvedAt_21 a1 a2 Q g_11) ∧ (¬ r_11 = 0 → wB_X9_solvedAt_22 a1 a2 Q 0 g_11))) g_3)))) g)
set_option maxHeartbeats 4000000 in
set_option maxRecDepth 100000 in
theorem M_X9_solvedAt {l : Launch} {s0 : State} {b0 : Addr} {D : va_G} {ids : Nat → ClassId} {ex : Option Nat} {g : jv_Mem} {a1 : Int} {a2 : Int} {Q : Int → jv_Mem → Prop} (h : wp_X9_solvedAt a1 a2 Q g) : jv_M l s0 b0 D ids yX9_solvedAt cX9_solvedAt 3 (some .int) 2 52 0 0 ex jv_SH g [.ref (s0.heap.size + (126 : Int).toNat), jv_i a1, jv_i a2] ex jv_SH (jv_qi Q) := by
  refine jv_M.of (by decide +kernel) rfl rfl (fun p e s m args below meth c C hml hr hlk hnm => ?_)
  replace C : jv_C p s m args c cX9_solvedAt RX9 s0 b0 D ids := C
  show jv_V p l e (jv_rm 2 52 0 0) s m args below meth c 0 0 (jv_ZM below s0 D ids ex jv_SH (jv_qi Q) args s 0 0) s0 D ids ex jv_SH g 0 [some (.ref (s0.heap.size + (126 : Int).toNat)), some (jv_i a1), some (jv_i a2)] []
  unfold wp_X9_solvedAt at h
  refine jv_aload_n C dX9_solvedAt_0 rfl ?_
  refine jv_aload_n C dX9_solvedAt_1 rfl ?_
  refine jv_iload_n C dX9_solvedAt_2 rfl ?_
  refine jv_callVi C (M_X9_isSolver h) kw_X9_165 sS_126 rfl rfl ⟨rfl, rfl⟩ (st := [.ref (s0.heap.size + (126 : Int).toNat)]) rfl rfl ⟨rfl, rfl⟩ dX9_solvedAt_3 (fun r_3 g_3 h => ?_)
  have hJ22 : ∀ (y0_22 : Int) (gj_22 : jv_Mem), wB_X9_solvedAt_22 a1 a2 Q y0_22 gj_22 → jv_V p l e (jv_rm 2 52 0 0) s m args below meth c 0 0 (jv_ZM below s0 D ids ex jv_SH (jv_qi Q) args s 0 0) s0 D ids ex jv_SH gj_22 22 [some (.ref (s0.heap.size + (126 : Int).toNat)), some (jv_i a1), some (jv_i a2)] [jv_i y0_22, .ref (s0.heap.size + (126 : Int).toNat)] := by
    intro y0_22 gj_22 h
    unfold wB_X9_solvedAt_22 at h
    refine jv_puti C kf_X9_73 sS_126 rfl dX9_solvedAt_22 (jv_gm (fun g_22 eg_22 => ?_))
    replace h := h g_22 eg_22
    refine jv_aload_n C dX9_solvedAt_25 rfl ?_
    refine jv_geti C kf_X9_73 sS_126 rfl dX9_solvedAt_26 ?_
    obtain ⟨hr_29, h1_29, h2_29⟩ := h
    refine jv_if_ne (tgt := 41) C hr_29 dX9_solvedAt_29 rfl (fun hc_29 => ?_) (fun hc_29 => ?_)
    · replace h := h1_29 hc_29
      refine jv_const C dX9_solvedAt_41 ?_
      exact jv_iret C hr hlk ⟨_, rfl, h⟩ dX9_solvedAt_42 ⟨rfl, rfl⟩
    · replace h := h2_29 hc_29
      refine jv_aload_n C dX9_solvedAt_32 rfl ?_
      refine jv_iload_n C dX9_solvedAt_33 rfl ?_
      refine jv_iload_n C dX9_solvedAt_34 rfl ?_
      refine jv_callVi C (M_X9_solved h) kw_X9_159 sS_126 rfl rfl ⟨rfl, rfl⟩ (st := []) rfl rfl ⟨rfl, rfl⟩ dX9_solvedAt_35 (fun r_35 g_35 h => ?_)
      refine jv_goto (tgt := 42) C dX9_solvedAt_38 rfl ?_
      exact jv_iret C hr hlk ⟨_, rfl, h⟩ dX9_solvedAt_42 ⟨rfl, rfl⟩
  have hJ21 : ∀ (gj_21 : jv_Mem), wB_X9_solvedAt_21 a1 a2 Q gj_21 → jv_V p l e (jv_rm 2 52 0 0) s m args below meth c 0 0 (jv_ZM below s0 D ids ex jv_SH (jv_qi Q) args s 0 0) s0 D ids ex jv_SH gj_21 21 [some (.ref (s0.heap.size + (126 : Int).toNat)), some (jv_i a1), some (jv_i a2)] [.ref (s0.heap.size + (126 : Int).toNat)] := by
    intro gj_21 h
    unfold wB_X9_solvedAt_21 at h
    refine jv_const C dX9_solvedAt_21 ?_
    exact jv_less (ls' := [some (.ref (s0.heap.size + (126 : Int).toNat)), some (jv_i a1), some (jv_i a2)]) ⟨rfl, ⟨rfl, ⟨rfl, trivial⟩⟩⟩ (hJ22 _ _ h)
  obtain ⟨hr_6, h1_6, h2_6⟩ := h
  refine jv_if_eq (tgt := 21) C hr_6 dX9_solvedAt_6 rfl (fun hc_6 => ?_) (fun hc_6 => ?_)
  · replace h := h1_6 hc_6
    exact jv_less (ls' := [some (.ref (s0.heap.size + (126 : Int).toNat)), some (jv_i a1), some (jv_i a2)]) ⟨rfl, ⟨rfl, ⟨rfl, trivial⟩⟩⟩ (hJ21 _ h)
  · replace h := h2_6 hc_6
    refine jv_aload_n C dX9_solvedAt_9 rfl ?_
    refine jv_iload_n C dX9_solvedAt_10 rfl ?_
    refine jv_callVi C (M_X9_isPuzzle h) kw_X9_150 sS_126 rfl rfl ⟨rfl, rfl⟩ (st := [.ref (s0.heap.size + (126 : Int).toNat)]) rfl rfl ⟨rfl, rfl⟩ dX9_solvedAt_11 (fun r_11 g_11 h => ?_)
    obtain ⟨hr_14, h1_14, h2_14⟩ := h
    refine jv_if_eq (tgt := 21) C hr_14 dX9_solvedAt_14 rfl (fun hc_14 => ?_) (fun hc_14 => ?_)
    · replace h := h1_14 hc_14
      exact jv_less (ls' := [some (.ref (s0.heap.size + (126 : Int).toNat)), some (jv_i a1), some (jv_i a2)]) ⟨rfl, ⟨rfl, ⟨rfl, trivial⟩⟩⟩ (hJ21 _ h)
    · replace h := h2_14 hc_14
      refine jv_const C dX9_solvedAt_17 ?_
      refine jv_goto (tgt := 22) C dX9_solvedAt_18 rfl ?_
      exact jv_less (ls' := [some (.ref (s0.heap.size + (126 : Int).toNat)), some (jv_i a1), some (jv_i a2)]) ⟨rfl, ⟨rfl, ⟨rfl, trivial⟩⟩⟩ (hJ22 _ _ h)

def wB_X9_open_14 (a1 : Int) (Q : Int → jv_Mem → Prop) (y0_14 : Int) (gj_14 : jv_Mem) : Prop :=
  (∀ g_14 : jv_Mem, g_14 = jv_up gj_14 126 29 y0_14 → ((jv_r (g_14 126 29)) ∧ (¬ (g_14 126 29) = 0 → Q 0 g_14) ∧ ((g_14 126 29) = 0 → (wp_X9_openOf a1 (fun (r_26 : Int) (g_26 : jv_Mem) => Q r_26 g_26) g_14))))
def wp_X9_open (a1 : Int) (Q : Int → jv_Mem → Prop) (g : jv_Mem) : Prop :=
  (wp_X9_isPuzzle a1 (fun (r_3 : Int) (g_3 : jv_Mem) => ((jv_r r_3) ∧ (r_3 = 0 → wB_X9_open_14 a1 Q 1 g_3) ∧ (¬ r_3 = 0 → wB_X9_open_14 a1 Q 0 g_3))) g)
set_option maxHeartbeats 4000000 in
set_option maxRecDepth 100000 in
theorem M_X9_open {l : Launch} {s0 : State} {b0 : Addr} {D : va_G} {ids : Nat → ClassId} {ex : Option Nat} {g : jv_Mem} {a1 : Int} {Q : Int → jv_Mem → Prop} (h : wp_X9_open a1 Q g) : jv_M l s0 b0 D ids yX9_open cX9_open 2 (some .int) 2 43 0 0 ex jv_SH g [.ref (s0.heap.size + (126 : Int).toNat), jv_i a1] ex jv_SH (jv_qi Q) := by
  refine jv_M.of (by decide +kernel) rfl rfl (fun p e s m args below meth c C hml hr hlk hnm => ?_)
  replace C : jv_C p s m args c cX9_open RX9 s0 b0 D ids := C
  show jv_V p l e (jv_rm 2 43 0 0) s m args below meth c 0 0 (jv_ZM below s0 D ids ex jv_SH (jv_qi Q) args s 0 0) s0 D ids ex jv_SH g 0 [some (.ref (s0.heap.size + (126 : Int).toNat)), some (jv_i a1)] []
  unfold wp_X9_open at h
  refine jv_aload_n C dX9_open_0 rfl ?_
  refine jv_aload_n C dX9_open_1 rfl ?_
  refine jv_iload_n C dX9_open_2 rfl ?_
  refine jv_callVi C (M_X9_isPuzzle h) kw_X9_150 sS_126 rfl rfl ⟨rfl, rfl⟩ (st := [.ref (s0.heap.size + (126 : Int).toNat)]) rfl rfl ⟨rfl, rfl⟩ dX9_open_3 (fun r_3 g_3 h => ?_)
  have hJ14 : ∀ (y0_14 : Int) (gj_14 : jv_Mem), wB_X9_open_14 a1 Q y0_14 gj_14 → jv_V p l e (jv_rm 2 43 0 0) s m args below meth c 0 0 (jv_ZM below s0 D ids ex jv_SH (jv_qi Q) args s 0 0) s0 D ids ex jv_SH gj_14 14 [some (.ref (s0.heap.size + (126 : Int).toNat)), some (jv_i a1)] [jv_i y0_14, .ref (s0.heap.size + (126 : Int).toNat)] := by
    intro y0_14 gj_14 h
    unfold wB_X9_open_14 at h
    refine jv_puti C kf_X9_73 sS_126 rfl dX9_open_14 (jv_gm (fun g_14 eg_14 => ?_))
    replace h := h g_14 eg_14
    refine jv_aload_n C dX9_open_17 rfl ?_
    refine jv_geti C kf_X9_73 sS_126 rfl dX9_open_18 ?_
    obtain ⟨hr_21, h1_21, h2_21⟩ := h
    refine jv_if_ne (tgt := 32) C hr_21 dX9_open_21 rfl (fun hc_21 => ?_) (fun hc_21 => ?_)
    · replace h := h1_21 hc_21
      refine jv_const C dX9_open_32 ?_
      exact jv_iret C hr hlk ⟨_, rfl, h⟩ dX9_open_33 ⟨rfl, rfl⟩
    · replace h := h2_21 hc_21
      refine jv_aload_n C dX9_open_24 rfl ?_
      refine jv_iload_n C dX9_open_25 rfl ?_
      refine jv_callVi C (M_X9_openOf h) kw_X9_156 sS_126 rfl rfl ⟨rfl, rfl⟩ (st := []) rfl rfl ⟨rfl, rfl⟩ dX9_open_26 (fun r_26 g_26 h => ?_)
      refine jv_goto (tgt := 33) C dX9_open_29 rfl ?_
      exact jv_iret C hr hlk ⟨_, rfl, h⟩ dX9_open_33 ⟨rfl, rfl⟩
  obtain ⟨hr_6, h1_6, h2_6⟩ := h
  refine jv_if_eq (tgt := 13) C hr_6 dX9_open_6 rfl (fun hc_6 => ?_) (fun hc_6 => ?_)
  · replace h := h1_6 hc_6
    refine jv_const C dX9_open_13 ?_
    exact jv_less (ls' := [some (.ref (s0.heap.size + (126 : Int).toNat)), some (jv_i a1)]) ⟨rfl, ⟨rfl, trivial⟩⟩ (hJ14 _ _ h)
  · replace h := h2_6 hc_6
    refine jv_const C dX9_open_9 ?_
    refine jv_goto (tgt := 14) C dX9_open_10 rfl ?_
    exact jv_less (ls' := [some (.ref (s0.heap.size + (126 : Int).toNat)), some (jv_i a1)]) ⟨rfl, ⟨rfl, trivial⟩⟩ (hJ14 _ _ h)

def wB_X9_coins_14 (a1 : Int) (Q : Int → jv_Mem → Prop) (y0_14 : Int) (gj_14 : jv_Mem) : Prop :=
  (∀ g_14 : jv_Mem, g_14 = jv_up gj_14 126 29 y0_14 → ((jv_r (g_14 126 29)) ∧ (¬ (g_14 126 29) = 0 → Q 0 g_14) ∧ ((g_14 126 29) = 0 → (((0 : Int) ≤ a1 ∧ a1 < (6 : Int)) ∧ Q (g_14 143 a1) g_14))))
def wp_X9_coins (a1 : Int) (Q : Int → jv_Mem → Prop) (g : jv_Mem) : Prop :=
  (wp_X9_isSolver a1 (fun (r_3 : Int) (g_3 : jv_Mem) => ((jv_r r_3) ∧ (r_3 = 0 → wB_X9_coins_14 a1 Q 1 g_3) ∧ (¬ r_3 = 0 → wB_X9_coins_14 a1 Q 0 g_3))) g)
set_option maxHeartbeats 4000000 in
set_option maxRecDepth 100000 in
theorem M_X9_coins {l : Launch} {s0 : State} {b0 : Addr} {D : va_G} {ids : Nat → ClassId} {ex : Option Nat} {g : jv_Mem} {a1 : Int} {Q : Int → jv_Mem → Prop} (h : wp_X9_coins a1 Q g) : jv_M l s0 b0 D ids yX9_coins cX9_coins 2 (some .int) 2 43 0 0 ex jv_SH g [.ref (s0.heap.size + (126 : Int).toNat), jv_i a1] ex jv_SH (jv_qi Q) := by
  refine jv_M.of (by decide +kernel) rfl rfl (fun p e s m args below meth c C hml hr hlk hnm => ?_)
  replace C : jv_C p s m args c cX9_coins RX9 s0 b0 D ids := C
  show jv_V p l e (jv_rm 2 43 0 0) s m args below meth c 0 0 (jv_ZM below s0 D ids ex jv_SH (jv_qi Q) args s 0 0) s0 D ids ex jv_SH g 0 [some (.ref (s0.heap.size + (126 : Int).toNat)), some (jv_i a1)] []
  unfold wp_X9_coins at h
  refine jv_aload_n C dX9_coins_0 rfl ?_
  refine jv_aload_n C dX9_coins_1 rfl ?_
  refine jv_iload_n C dX9_coins_2 rfl ?_
  refine jv_callVi C (M_X9_isSolver h) kw_X9_165 sS_126 rfl rfl ⟨rfl, rfl⟩ (st := [.ref (s0.heap.size + (126 : Int).toNat)]) rfl rfl ⟨rfl, rfl⟩ dX9_coins_3 (fun r_3 g_3 h => ?_)
  have hJ14 : ∀ (y0_14 : Int) (gj_14 : jv_Mem), wB_X9_coins_14 a1 Q y0_14 gj_14 → jv_V p l e (jv_rm 2 43 0 0) s m args below meth c 0 0 (jv_ZM below s0 D ids ex jv_SH (jv_qi Q) args s 0 0) s0 D ids ex jv_SH gj_14 14 [some (.ref (s0.heap.size + (126 : Int).toNat)), some (jv_i a1)] [jv_i y0_14, .ref (s0.heap.size + (126 : Int).toNat)] := by
    intro y0_14 gj_14 h
    unfold wB_X9_coins_14 at h
    refine jv_puti C kf_X9_73 sS_126 rfl dX9_coins_14 (jv_gm (fun g_14 eg_14 => ?_))
    replace h := h g_14 eg_14
    refine jv_aload_n C dX9_coins_17 rfl ?_
    refine jv_geti C kf_X9_73 sS_126 rfl dX9_coins_18 ?_
    obtain ⟨hr_21, h1_21, h2_21⟩ := h
    refine jv_if_ne (tgt := 33) C hr_21 dX9_coins_21 rfl (fun hc_21 => ?_) (fun hc_21 => ?_)
    · replace h := h1_21 hc_21
      refine jv_const C dX9_coins_33 ?_
      exact jv_iret C hr hlk ⟨_, rfl, h⟩ dX9_coins_34 ⟨rfl, rfl⟩
    · replace h := h2_21 hc_21
      refine jv_aload_n C dX9_coins_24 rfl ?_
      refine jv_getr C kf_X9_58 sS_126 rfl dX9_coins_25 ?_
      refine jv_iload_n C dX9_coins_28 rfl ?_
      obtain ⟨hb_29, h⟩ := h
      refine jv_iald C sS_143 rfl hb_29 dX9_coins_29 ?_
      refine jv_goto (tgt := 34) C dX9_coins_30 rfl ?_
      exact jv_iret C hr hlk ⟨_, rfl, h⟩ dX9_coins_34 ⟨rfl, rfl⟩
  obtain ⟨hr_6, h1_6, h2_6⟩ := h
  refine jv_if_eq (tgt := 13) C hr_6 dX9_coins_6 rfl (fun hc_6 => ?_) (fun hc_6 => ?_)
  · replace h := h1_6 hc_6
    refine jv_const C dX9_coins_13 ?_
    exact jv_less (ls' := [some (.ref (s0.heap.size + (126 : Int).toNat)), some (jv_i a1)]) ⟨rfl, ⟨rfl, trivial⟩⟩ (hJ14 _ _ h)
  · replace h := h2_6 hc_6
    refine jv_const C dX9_coins_9 ?_
    refine jv_goto (tgt := 14) C dX9_coins_10 rfl ?_
    exact jv_less (ls' := [some (.ref (s0.heap.size + (126 : Int).toNat)), some (jv_i a1)]) ⟨rfl, ⟨rfl, trivial⟩⟩ (hJ14 _ _ h)

def wB_X9_streak_14 (a1 : Int) (Q : Int → jv_Mem → Prop) (y0_14 : Int) (gj_14 : jv_Mem) : Prop :=
  (∀ g_14 : jv_Mem, g_14 = jv_up gj_14 126 29 y0_14 → ((jv_r (g_14 126 29)) ∧ (¬ (g_14 126 29) = 0 → Q 0 g_14) ∧ ((g_14 126 29) = 0 → (wp_X9_streakOf a1 (fun (r_26 : Int) (g_26 : jv_Mem) => Q r_26 g_26) g_14))))
def wp_X9_streak (a1 : Int) (Q : Int → jv_Mem → Prop) (g : jv_Mem) : Prop :=
  (wp_X9_isSolver a1 (fun (r_3 : Int) (g_3 : jv_Mem) => ((jv_r r_3) ∧ (r_3 = 0 → wB_X9_streak_14 a1 Q 1 g_3) ∧ (¬ r_3 = 0 → wB_X9_streak_14 a1 Q 0 g_3))) g)
set_option maxHeartbeats 4000000 in
set_option maxRecDepth 100000 in
theorem M_X9_streak {l : Launch} {s0 : State} {b0 : Addr} {D : va_G} {ids : Nat → ClassId} {ex : Option Nat} {g : jv_Mem} {a1 : Int} {Q : Int → jv_Mem → Prop} (h : wp_X9_streak a1 Q g) : jv_M l s0 b0 D ids yX9_streak cX9_streak 2 (some .int) 2 45 0 0 ex jv_SH g [.ref (s0.heap.size + (126 : Int).toNat), jv_i a1] ex jv_SH (jv_qi Q) := by
  refine jv_M.of (by decide +kernel) rfl rfl (fun p e s m args below meth c C hml hr hlk hnm => ?_)
  replace C : jv_C p s m args c cX9_streak RX9 s0 b0 D ids := C
  show jv_V p l e (jv_rm 2 45 0 0) s m args below meth c 0 0 (jv_ZM below s0 D ids ex jv_SH (jv_qi Q) args s 0 0) s0 D ids ex jv_SH g 0 [some (.ref (s0.heap.size + (126 : Int).toNat)), some (jv_i a1)] []
  unfold wp_X9_streak at h
  refine jv_aload_n C dX9_streak_0 rfl ?_
  refine jv_aload_n C dX9_streak_1 rfl ?_
  refine jv_iload_n C dX9_streak_2 rfl ?_
  refine jv_callVi C (M_X9_isSolver h) kw_X9_165 sS_126 rfl rfl ⟨rfl, rfl⟩ (st := [.ref (s0.heap.size + (126 : Int).toNat)]) rfl rfl ⟨rfl, rfl⟩ dX9_streak_3 (fun r_3 g_3 h => ?_)
  have hJ14 : ∀ (y0_14 : Int) (gj_14 : jv_Mem), wB_X9_streak_14 a1 Q y0_14 gj_14 → jv_V p l e (jv_rm 2 45 0 0) s m args below meth c 0 0 (jv_ZM below s0 D ids ex jv_SH (jv_qi Q) args s 0 0) s0 D ids ex jv_SH gj_14 14 [some (.ref (s0.heap.size + (126 : Int).toNat)), some (jv_i a1)] [jv_i y0_14, .ref (s0.heap.size + (126 : Int).toNat)] := by
    intro y0_14 gj_14 h
    unfold wB_X9_streak_14 at h
    refine jv_puti C kf_X9_73 sS_126 rfl dX9_streak_14 (jv_gm (fun g_14 eg_14 => ?_))
    replace h := h g_14 eg_14
    refine jv_aload_n C dX9_streak_17 rfl ?_
    refine jv_geti C kf_X9_73 sS_126 rfl dX9_streak_18 ?_
    obtain ⟨hr_21, h1_21, h2_21⟩ := h
    refine jv_if_ne (tgt := 32) C hr_21 dX9_streak_21 rfl (fun hc_21 => ?_) (fun hc_21 => ?_)
    · replace h := h1_21 hc_21
      refine jv_const C dX9_streak_32 ?_
      exact jv_iret C hr hlk ⟨_, rfl, h⟩ dX9_streak_33 ⟨rfl, rfl⟩
    · replace h := h2_21 hc_21
      refine jv_aload_n C dX9_streak_24 rfl ?_
      refine jv_iload_n C dX9_streak_25 rfl ?_
      refine jv_callVi C (M_X9_streakOf h) kw_X9_178 sS_126 rfl rfl ⟨rfl, rfl⟩ (st := []) rfl rfl ⟨rfl, rfl⟩ dX9_streak_26 (fun r_26 g_26 h => ?_)
      refine jv_goto (tgt := 33) C dX9_streak_29 rfl ?_
      exact jv_iret C hr hlk ⟨_, rfl, h⟩ dX9_streak_33 ⟨rfl, rfl⟩
  obtain ⟨hr_6, h1_6, h2_6⟩ := h
  refine jv_if_eq (tgt := 13) C hr_6 dX9_streak_6 rfl (fun hc_6 => ?_) (fun hc_6 => ?_)
  · replace h := h1_6 hc_6
    refine jv_const C dX9_streak_13 ?_
    exact jv_less (ls' := [some (.ref (s0.heap.size + (126 : Int).toNat)), some (jv_i a1)]) ⟨rfl, ⟨rfl, trivial⟩⟩ (hJ14 _ _ h)
  · replace h := h2_6 hc_6
    refine jv_const C dX9_streak_9 ?_
    refine jv_goto (tgt := 14) C dX9_streak_10 rfl ?_
    exact jv_less (ls' := [some (.ref (s0.heap.size + (126 : Int).toNat)), some (jv_i a1)]) ⟨rfl, ⟨rfl, trivial⟩⟩ (hJ14 _ _ h)

def wp_X9_streakAnew (a1 : Int) (Q : Int → jv_Mem → Prop) (g : jv_Mem) : Prop :=
  (wp_X9_streak a1 (fun (r_2 : Int) (g_2 : jv_Mem) => Q r_2 g_2) g)
set_option maxHeartbeats 4000000 in
set_option maxRecDepth 100000 in
theorem M_X9_streakAnew {l : Launch} {s0 : State} {b0 : Addr} {D : va_G} {ids : Nat → ClassId} {ex : Option Nat} {g : jv_Mem} {a1 : Int} {Q : Int → jv_Mem → Prop} (h : wp_X9_streakAnew a1 Q g) : jv_M l s0 b0 D ids yX9_streakAnew cX9_streakAnew 2 (some .int) 3 66 0 0 ex jv_SH g [.ref (s0.heap.size + (126 : Int).toNat), jv_i a1] ex jv_SH (jv_qi Q) := by
  refine jv_M.of (by decide +kernel) rfl rfl (fun p e s m args below meth c C hml hr hlk hnm => ?_)
  replace C : jv_C p s m args c cX9_streakAnew RX9 s0 b0 D ids := C
  show jv_V p l e (jv_rm 3 66 0 0) s m args below meth c 0 0 (jv_ZM below s0 D ids ex jv_SH (jv_qi Q) args s 0 0) s0 D ids ex jv_SH g 0 [some (.ref (s0.heap.size + (126 : Int).toNat)), some (jv_i a1)] []
  unfold wp_X9_streakAnew at h
  refine jv_aload_n C dX9_streakAnew_0 rfl ?_
  refine jv_iload_n C dX9_streakAnew_1 rfl ?_
  refine jv_callVi C (M_X9_streak h) kw_X9_181 sS_126 rfl rfl ⟨rfl, rfl⟩ (st := []) rfl rfl ⟨rfl, rfl⟩ dX9_streakAnew_2 (fun r_2 g_2 h => ?_)
  exact jv_iret C hr hlk ⟨_, rfl, h⟩ dX9_streakAnew_5 ⟨rfl, rfl⟩

def wB_X9_solverAt_91 (K20 : Int → Int → jv_Mem → Prop) (x3_20 : Int) (x4_20 : Int) (y0_91 : Int) (gj_91 : jv_Mem) : Prop :=
  (∀ v3_92 : Int, v3_92 = x3_20 + y0_91 → (∀ v4_93 : Int, v4_93 = x4_20 + 1 → K20 v3_92 v4_93 gj_91))
def wB_X9_solverAt_86 (K20 : Int → Int → jv_Mem → Prop) (x3_20 : Int) (x4_20 : Int) (gj_86 : jv_Mem) : Prop :=
  wB_X9_solverAt_91 K20 x3_20 x4_20 1 gj_86
def wB_X9_solverAt_90 (K20 : Int → Int → jv_Mem → Prop) (x3_20 : Int) (x4_20 : Int) (gj_90 : jv_Mem) : Prop :=
  wB_X9_solverAt_91 K20 x3_20 x4_20 0 gj_90
def wB_X9_solverAt_67 (K20 : Int → Int → jv_Mem → Prop) (x2_7 : Int) (x3_20 : Int) (x4_20 : Int) (y0_67 : Int) (gj_67 : jv_Mem) : Prop :=
  ((jv_r y0_67) ∧ (0 < y0_67 → wB_X9_solverAt_86 K20 x3_20 x4_20 gj_67) ∧ (y0_67 ≤ 0 → ((jv_r y0_67) ∧ (¬ y0_67 = 0 → wB_X9_solverAt_90 K20 x3_20 x4_20 gj_67) ∧ (y0_67 = 0 → ((jv_r x4_20 ∧ jv_r x2_7) ∧ (x2_7 ≤ x4_20 → wB_X9_solverAt_90 K20 x3_20 x4_20 gj_67) ∧ (x4_20 < x2_7 → wB_X9_solverAt_86 K20 x3_20 x4_20 gj_67))))))
def wp_X9_solverAt (a1 : Int) (Q : Int → jv_Mem → Prop) (g : jv_Mem) : Prop :=
  (∀ g_2 : jv_Mem, g_2 = jv_up g 126 29 0 → jv_lp1 (fun (K7 : Int → jv_Mem → Prop) (x2_7 : Int) (gl_7 : jv_Mem) => ((jv_r x2_7 ∧ jv_r (gl_7 126 22)) ∧ ((gl_7 126 22) ≤ x2_7 → Q ((-1)) gl_7) ∧ (x2_7 < (gl_7 126 22) → jv_lp2 (fun (K20 : Int → Int → jv_Mem → Prop) (x3_20 x4_20 : Int) (gl_20 : jv_Mem) => ((jv_r x4_20 ∧ jv_r (gl_20 126 22)) ∧ ((gl_20 126 22) ≤ x4_20 → ((jv_r x3_20 ∧ jv_r a1) ∧ (¬ x3_20 = a1 → (∀ v2_106 : Int, v2_106 = x2_7 + 1 → K7 v2_106 gl_20)) ∧ (x3_20 = a1 → Q x2_7 gl_20))) ∧ (x4_20 < (gl_20 126 22) → (wp_X9_streakOf x4_20 (fun (r_32 : Int) (g_32 : jv_Mem) => (wp_X9_streakOf x2_7 (fun (r_37 : Int) (g_37 : jv_Mem) => (∀ v5_41 : Int, v5_41 = r_32 - r_37 → ((jv_r v5_41) ∧ (¬ v5_41 = 0 → wB_X9_solverAt_67 K20 x2_7 x3_20 x4_20 v5_41 g_37) ∧ (v5_41 = 0 → (((0 : Int) ≤ x4_20 ∧ x4_20 < (6 : Int)) ∧ (((0 : Int) ≤ x2_7 ∧ x2_7 < (6 : Int)) ∧ wB_X9_solverAt_67 K20 x2_7 x3_20 x4_20 ((g_37 143 x4_20) - (g_37 143 x2_7)) g_37)))))) g_32)) gl_20)))) 0 0 gl_7))) 0 g_2)
set_option maxHeartbeats 4000000 in
set_option maxRecDepth 100000 in
theorem M_X9_solverAt {l : Launch} {s0 : State} {b0 : Addr} {D : va_G} {ids : Nat → ClassId} {ex : Option Nat} {g : jv_Mem} {a1 : Int} {Q : Int → jv_Mem → Prop} (h : wp_X9_solverAt a1 Q g) : jv_M l s0 b0 D ids yX9_solverAt cX9_solverAt 6 (some .int) 2 45 0 0 ex jv_SH g [.ref (s0.heap.size + (126 : Int).toNat), jv_i a1] ex jv_SH (jv_qi Q) := by
  refine jv_M.of (by decide +kernel) rfl rfl (fun p e s m args below meth c C hml hr hlk hnm => ?_)
  replace C : jv_C p s m args c cX9_solverAt RX9 s0 b0 D ids := C
  show jv_V p l e (jv_rm 2 45 0 0) s m args below meth c 0 0 (jv_ZM below s0 D ids ex jv_SH (jv_qi Q) args s 0 0) s0 D ids ex jv_SH g 0 [some (.ref (s0.heap.size + (126 : Int).toNat)), some (jv_i a1), none, none, none, none] []
  unfold wp_X9_solverAt at h
  refine jv_aload_n C dX9_solverAt_0 rfl ?_
  refine jv_const C dX9_solverAt_1 ?_
  refine jv_puti C kf_X9_73 sS_126 rfl dX9_solverAt_2 (jv_gm (fun g_2 eg_2 => ?_))
  replace h := h g_2 eg_2
  refine jv_const C dX9_solverAt_5 ?_
  refine jv_istore_n (ls' := [some (.ref (s0.heap.size + (126 : Int).toNat)), some (jv_i a1), some (jv_i 0), none, none, none]) C dX9_solverAt_6 (Nat.lt_of_lt_of_eq (Nat.le_of_ble_eq_true rfl) hml) rfl ?_
  refine jv_less (ls' := [some (.ref (s0.heap.size + (126 : Int).toNat)), some (jv_i a1), some (jv_i 0), none, none, none]) ⟨rfl, ⟨rfl, ⟨rfl, trivial⟩⟩⟩ ?_
  refine jv_lp1.use h (fun (x2_7 : Int) (gl_7 : jv_Mem) => jv_V p l e (jv_rm 2 45 0 0) s m args below meth c 0 0 (jv_ZM below s0 D ids ex jv_SH (jv_qi Q) args s 0 0) s0 D ids ex jv_SH gl_7 7 [some (.ref (s0.heap.size + (126 : Int).toNat)), some (jv_i a1), some (jv_i x2_7), none, none, none] []) ?_
  intro K7 hK7 x2_7 gl_7 h
  refine jv_iload_n C dX9_solverAt_7 rfl ?_
  refine jv_aload_n C dX9_solverAt_8 rfl ?_
  refine jv_geti C kf_X9_153 sS_126 rfl dX9_solverAt_9 ?_
  obtain ⟨hr_12, h1_12, h2_12⟩ := h
  refine jv_icmp_ge (tgt := 112) C hr_12.1 hr_12.2 dX9_solverAt_12 rfl (fun hc_12 => ?_) (fun hc_12 => ?_)
  · replace h := h1_12 hc_12
    refine jv_const C dX9_solverAt_112 ?_
    exact jv_iret C hr hlk ⟨_, rfl, h⟩ dX9_solverAt_113 ⟨rfl, rfl⟩
  · replace h := h2_12 hc_12
    refine jv_const C dX9_solverAt_15 ?_
    refine jv_istore_n (ls' := [some (.ref (s0.heap.size + (126 : Int).toNat)), some (jv_i a1), some (jv_i x2_7), some (jv_i 0), none, none]) C dX9_solverAt_16 (Nat.lt_of_lt_of_eq (Nat.le_of_ble_eq_true rfl) hml) rfl ?_
    refine jv_const C dX9_solverAt_17 ?_
    refine jv_istore (ls' := [some (.ref (s0.heap.size + (126 : Int).toNat)), some (jv_i a1), some (jv_i x2_7), some (jv_i 0), some (jv_i 0), none]) C dX9_solverAt_18 (Nat.lt_of_lt_of_eq (Nat.le_of_ble_eq_true rfl) hml) rfl ?_
    refine jv_less (ls' := [some (.ref (s0.heap.size + (126 : Int).toNat)), some (jv_i a1), some (jv_i x2_7), some (jv_i 0), some (jv_i 0), none]) ⟨rfl, ⟨rfl, ⟨rfl, ⟨rfl, ⟨rfl, trivial⟩⟩⟩⟩⟩ ?_
    refine jv_lp2.use h (fun (x3_20 x4_20 : Int) (gl_20 : jv_Mem) => jv_V p l e (jv_rm 2 45 0 0) s m args below meth c 0 0 (jv_ZM below s0 D ids ex jv_SH (jv_qi Q) args s 0 0) s0 D ids ex jv_SH gl_20 20 [some (.ref (s0.heap.size + (126 : Int).toNat)), some (jv_i a1), some (jv_i x2_7), some (jv_i x3_20), some (jv_i x4_20), none] []) ?_
    intro K20 hK20 x3_20 x4_20 gl_20 h
    refine jv_iload C dX9_solverAt_20 rfl ?_
    refine jv_aload_n C dX9_solverAt_22 rfl ?_
    refine jv_geti C kf_X9_153 sS_126 rfl dX9_solverAt_23 ?_
    obtain ⟨hr_26, h1_26, h2_26⟩ := h
    refine jv_icmp_ge (tgt := 99) C hr_26.1 hr_26.2 dX9_solverAt_26 rfl (fun hc_26 => ?_) (fun hc_26 => ?_)
    · replace h := h1_26 hc_26
      refine jv_iload_n C dX9_solverAt_99 rfl ?_
      refine jv_iload_n C dX9_solverAt_100 rfl ?_
      obtain ⟨hr_101, h1_101, h2_101⟩ := h
      refine jv_icmp_ne (tgt := 106) C hr_101.1 hr_101.2 dX9_solverAt_101 rfl (fun hc_101 => ?_) (fun hc_101 => ?_)
      · replace h := h1_101 hc_101
        refine jv_iincn C dX9_solverAt_106 (Nat.lt_of_lt_of_eq (Nat.le_of_ble_eq_true rfl) hml) rfl (fun v2_106 ev2_106 => ?_)
        replace h := h v2_106 ev2_106
        refine jv_lset (ls' := [some (.ref (s0.heap.size + (126 : Int).toNat)), some (jv_i a1), some (jv_i v2_106), some (jv_i x3_20), some (jv_i x4_20), none]) rfl ?_
        refine jv_goto (tgt := 7) C dX9_solverAt_109 rfl ?_
        exact jv_less (ls' := [some (.ref (s0.heap.size + (126 : Int).toNat)), some (jv_i a1), some (jv_i v2_106), none, none, none]) ⟨rfl, ⟨rfl, ⟨rfl, trivial⟩⟩⟩ (hK7 _ _ h)
      · replace h := h2_101 hc_101
        refine jv_iload_n C dX9_solverAt_104 rfl ?_
        exact jv_iret C hr hlk ⟨_, rfl, h⟩ dX9_solverAt_105 ⟨rfl, rfl⟩
    · replace h := h2_26 hc_26
      refine jv_aload_n C dX9_solverAt_29 rfl ?_
      refine jv_iload C dX9_solverAt_30 rfl ?_
      refine jv_callVi C (M_X9_streakOf h) kw_X9_178 sS_126 rfl rfl ⟨rfl, rfl⟩ (st := []) rfl rfl ⟨rfl, rfl⟩ dX9_solverAt_32 (fun r_32 g_32 h => ?_)
      refine jv_aload_n C dX9_solverAt_35 rfl ?_
      refine jv_iload_n C dX9_solverAt_36 rfl ?_
      refine jv_callVi C (M_X9_streakOf h) kw_X9_178 sS_126 rfl rfl ⟨rfl, rfl⟩ (st := [jv_i r_32]) rfl rfl ⟨rfl, rfl⟩ dX9_solverAt_37 (fun r_37 g_37 h => ?_)
      refine jv_isub C dX9_solverAt_40 ?_
      refine jv_top (fun v5_41 ev5_41 => ?_)
      replace h := h v5_41 ev5_41
      refine jv_istore (ls' := [some (.ref (s0.heap.size + (126 : Int).toNat)), some (jv_i a1), some (jv_i x2_7), some (jv_i x3_20), some (jv_i x4_20), some (jv_i v5_41)]) C dX9_solverAt_41 (Nat.lt_of_lt_of_eq (Nat.le_of_ble_eq_true rfl) hml) rfl ?_
      refine jv_iload C dX9_solverAt_43 rfl ?_
      have hJ67 : ∀ (y0_67 : Int) (gj_67 : jv_Mem), wB_X9_solverAt_67 K20 x2_7 x3_20 x4_20 y0_67 gj_67 → jv_V p l e (jv_rm 2 45 0 0) s m args below meth c 0 0 (jv_ZM below s0 D ids ex jv_SH (jv_qi Q) args s 0 0) s0 D ids ex jv_SH gj_67 67 [some (.ref (s0.heap.size + (126 : Int).toNat)), some (jv_i a1), some (jv_i x2_7), some (jv_i x3_20), some (jv_i x4_20), none] [jv_i y0_67] := by
        intro y0_67 gj_67 h
        unfold wB_X9_solverAt_67 at h
        refine jv_istore (ls' := [some (.ref (s0.heap.size + (126 : Int).toNat)), some (jv_i a1), some (jv_i x2_7), some (jv_i x3_20), some (jv_i x4_20), some (jv_i y0_67)]) C dX9_solverAt_67 (Nat.lt_of_lt_of_eq (Nat.le_of_ble_eq_true rfl) hml) rfl ?_
        refine jv_iload_n C dX9_solverAt_69 rfl ?_
        refine jv_iload C dX9_solverAt_70 rfl ?_
        have hJ91 : ∀ (y0_91 : Int) (gj_91 : jv_Mem), wB_X9_solverAt_91 K20 x3_20 x4_20 y0_91 gj_91 → jv_V p l e (jv_rm 2 45 0 0) s m args below meth c 0 0 (jv_ZM below s0 D ids ex jv_SH (jv_qi Q) args s 0 0) s0 D ids ex jv_SH gj_91 91 [some (.ref (s0.heap.size + (126 : Int).toNat)), some (jv_i a1), some (jv_i x2_7), none, some (jv_i x4_20), none] [jv_i y0_91, jv_i x3_20] := by
          intro y0_91 gj_91 h
          unfold wB_X9_solverAt_91 at h
          refine jv_iadd C dX9_solverAt_91 ?_
          refine jv_top (fun v3_92 ev3_92 => ?_)
          replace h := h v3_92 ev3_92
          refine jv_istore_n (ls' := [some (.ref (s0.heap.size + (126 : Int).toNat)), some (jv_i a1), some (jv_i x2_7), some (jv_i v3_92), some (jv_i x4_20), none]) C dX9_solverAt_92 (Nat.lt_of_lt_of_eq (Nat.le_of_ble_eq_true rfl) hml) rfl ?_
          refine jv_iincn C dX9_solverAt_93 (Nat.lt_of_lt_of_eq (Nat.le_of_ble_eq_true rfl) hml) rfl (fun v4_93 ev4_93 => ?_)
          replace h := h v4_93 ev4_93
          refine jv_lset (ls' := [some (.ref (s0.heap.size + (126 : Int).toNat)), some (jv_i a1), some (jv_i x2_7), some (jv_i v3_92), some (jv_i v4_93), none]) rfl ?_
          refine jv_goto (tgt := 20) C dX9_solverAt_96 rfl ?_
          exact jv_less (ls' := [some (.ref (s0.heap.size + (126 : Int).toNat)), some (jv_i a1), some (jv_i x2_7), some (jv_i v3_92), some (jv_i v4_93), none]) ⟨rfl, ⟨rfl, ⟨rfl, ⟨rfl, ⟨rfl, trivial⟩⟩⟩⟩⟩ (hK20 _ _ _ h)
        have hJ86 : ∀ (gj_86 : jv_Mem), wB_X9_solverAt_86 K20 x3_20 x4_20 gj_86 → jv_V p l e (jv_rm 2 45 0 0) s m args below meth c 0 0 (jv_ZM below s0 D ids ex jv_SH (jv_qi Q) args s 0 0) s0 D ids ex jv_SH gj_86 86 [some (.ref (s0.heap.size + (126 : Int).toNat)), some (jv_i a1), some (jv_i x2_7), none, some (jv_i x4_20), none] [jv_i x3_20] := by
          intro gj_86 h
          unfold wB_X9_solverAt_86 at h
          refine jv_const C dX9_solverAt_86 ?_
          refine jv_goto (tgt := 91) C dX9_solverAt_87 rfl ?_
          exact jv_less (ls' := [some (.ref (s0.heap.size + (126 : Int).toNat)), some (jv_i a1), some (jv_i x2_7), none, some (jv_i x4_20), none]) ⟨rfl, ⟨rfl, ⟨rfl, ⟨rfl, trivial⟩⟩⟩⟩ (hJ91 _ _ h)
        obtain ⟨hr_72, h1_72, h2_72⟩ := h
        refine jv_if_gt (tgt := 86) C hr_72 dX9_solverAt_72 rfl (fun hc_72 => ?_) (fun hc_72 => ?_)
        · replace h := h1_72 hc_72
          exact jv_less (ls' := [some (.ref (s0.heap.size + (126 : Int).toNat)), some (jv_i a1), some (jv_i x2_7), none, some (jv_i x4_20), none]) ⟨rfl, ⟨rfl, ⟨rfl, ⟨rfl, trivial⟩⟩⟩⟩ (hJ86 _ h)
        · replace h := h2_72 hc_72
          refine jv_iload C dX9_solverAt_75 rfl ?_
          have hJ90 : ∀ (gj_90 : jv_Mem), wB_X9_solverAt_90 K20 x3_20 x4_20 gj_90 → jv_V p l e (jv_rm 2 45 0 0) s m args below meth c 0 0 (jv_ZM below s0 D ids ex jv_SH (jv_qi Q) args s 0 0) s0 D ids ex jv_SH gj_90 90 [some (.ref (s0.heap.size + (126 : Int).toNat)), some (jv_i a1), some (jv_i x2_7), none, some (jv_i x4_20), none] [jv_i x3_20] := by
            intro gj_90 h
            unfold wB_X9_solverAt_90 at h
            refine jv_const C dX9_solverAt_90 ?_
            exact jv_less (ls' := [some (.ref (s0.heap.size + (126 : Int).toNat)), some (jv_i a1), some (jv_i x2_7), none, some (jv_i x4_20), none]) ⟨rfl, ⟨rfl, ⟨rfl, ⟨rfl, trivial⟩⟩⟩⟩ (hJ91 _ _ h)
          obtain ⟨hr_77, h1_77, h2_77⟩ := h
          refine jv_if_ne (tgt := 90) C hr_77 dX9_solverAt_77 rfl (fun hc_77 => ?_) (fun hc_77 => ?_)
          · replace h := h1_77 hc_77
            exact jv_less (ls' := [some (.ref (s0.heap.size + (126 : Int).toNat)), some (jv_i a1), some (jv_i x2_7), none, some (jv_i x4_20), none]) ⟨rfl, ⟨rfl, ⟨rfl, ⟨rfl, trivial⟩⟩⟩⟩ (hJ90 _ h)
          · replace h := h2_77 hc_77
            refine jv_iload C dX9_solverAt_80 rfl ?_
            refine jv_iload_n C dX9_solverAt_82 rfl ?_
            obtain ⟨hr_83, h1_83, h2_83⟩ := h
            refine jv_icmp_ge (tgt := 90) C hr_83.1 hr_83.2 dX9_solverAt_83 rfl (fun hc_83 => ?_) (fun hc_83 => ?_)
            · replace h := h1_83 hc_83
              exact jv_less (ls' := [some (.ref (s0.heap.size + (126 : Int).toNat)), some (jv_i a1), some (jv_i x2_7), none, some (jv_i x4_20), none]) ⟨rfl, ⟨rfl, ⟨rfl, ⟨rfl, trivial⟩⟩⟩⟩ (hJ90 _ h)
            · replace h := h2_83 hc_83
              exact jv_less (ls' := [some (.ref (s0.heap.size + (126 : Int).toNat)), some (jv_i a1), some (jv_i x2_7), none, some (jv_i x4_20), none]) ⟨rfl, ⟨rfl, ⟨rfl, ⟨rfl, trivial⟩⟩⟩⟩ (hJ86 _ h)
      obtain ⟨hr_45, h1_45, h2_45⟩ := h
      refine jv_if_ne (tgt := 65) C hr_45 dX9_solverAt_45 rfl (fun hc_45 => ?_) (fun hc_45 => ?_)
      · replace h := h1_45 hc_45
        refine jv_iload C dX9_solverAt_65 rfl ?_
        exact jv_less (ls' := [some (.ref (s0.heap.size + (126 : Int).toNat)), some (jv_i a1), some (jv_i x2_7), some (jv_i x3_20), some (jv_i x4_20), none]) ⟨rfl, ⟨rfl, ⟨rfl, ⟨rfl, ⟨rfl, trivial⟩⟩⟩⟩⟩ (hJ67 _ _ h)
      · replace h := h2_45 hc_45
        refine jv_aload_n C dX9_solverAt_48 rfl ?_
        refine jv_getr C kf_X9_58 sS_126 rfl dX9_solverAt_49 ?_
        refine jv_iload C dX9_solverAt_52 rfl ?_
        obtain ⟨hb_54, h⟩ := h
        refine jv_iald C sS_143 rfl hb_54 dX9_solverAt_54 ?_
        refine jv_aload_n C dX9_solverAt_55 rfl ?_
        refine jv_getr C kf_X9_58 sS_126 rfl dX9_solverAt_56 ?_
        refine jv_iload_n C dX9_solverAt_59 rfl ?_
        obtain ⟨hb_60, h⟩ := h
        refine jv_iald C sS_143 rfl hb_60 dX9_solverAt_60 ?_
        refine jv_isub C dX9_solverAt_61 ?_
        refine jv_goto (tgt := 67) C dX9_solverAt_62 rfl ?_
        exact jv_less (ls' := [some (.ref (s0.heap.size + (126 : Int).toNat)), some (jv_i a1), some (jv_i x2_7), some (jv_i x3_20), some (jv_i x4_20), none]) ⟨rfl, ⟨rfl, ⟨rfl, ⟨rfl, ⟨rfl, trivial⟩⟩⟩⟩⟩ (hJ67 _ _ h)

