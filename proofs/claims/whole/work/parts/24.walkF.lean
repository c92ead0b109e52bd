def wp_L_spell (a1 : Int) (Q : Int → jv_Mem → Prop) (g : jv_Mem) : Prop :=
  (wp_X8_spell a1 (fun (r_4 : Int) (g_4 : jv_Mem) => (jv_r r_4 ∧ (((0 : Int) ≤ 0 ∧ 0 < (1 : Int)) ∧ (∀ g_8 : jv_Mem, g_8 = jv_up g_4 148 0 r_4 → Q 0 g_8)))) (fun (E : String) (gx : jv_Mem) => (E = "java/lang/IndexOutOfBoundsException" ∧ Q 1 gx) ∨ (E = "java/lang/IllegalStateException" ∧ Q 2 gx)) g)
set_option maxHeartbeats 4000000 in
set_option maxRecDepth 100000 in
theorem M_L_spell {l : Launch} {s0 : State} {b0 : Addr} {D : va_G} {ids : Nat → ClassId} {g : jv_Mem} {a1 : Int} {Q : Int → jv_Mem → Prop} (hT : jv_T l s0 b0) (h : wp_L_spell a1 Q g) : jv_MW l s0 b0 D ids yL_spell cL_spell 4 (some .int) [(0, 9, 12, 13), (0, 9, 15, 15)] 8 137 2 12 jv_SH g [.ref (s0.heap.size + (0 : Int).toNat), jv_i a1, .ref (s0.heap.size + (148 : Int).toNat)] (jv_qi Q) := by
  refine jv_MW.of (by decide +kernel) rfl rfl (fun p e s m args below meth c C hml hr hlk htab => ?_)
  replace C : jv_C p s m args c cL_spell RL s0 b0 D ids := C
  show jv_V p l e (jv_rm 8 137 2 12) s m args below meth c 0 0 (jv_ZX below s0 D ids jv_SH (jv_qi Q) (fun _ _ => False) args s 2 12) s0 D ids none jv_SH g 0 [some (.ref (s0.heap.size + (0 : Int).toNat)), some (jv_i a1), some (.ref (s0.heap.size + (148 : Int).toNat)), none] []
  unfold wp_L_spell at h
  refine jv_aload_n C dL_spell_0 rfl ?_
  refine jv_const C dL_spell_1 ?_
  refine jv_aload_n C dL_spell_2 rfl ?_
  refine jv_iload_n C dL_spell_3 rfl ?_
  refine jv_callVXi C (M_X8_spell hT h) kw_L_7 sS_0 rfl rfl ⟨rfl, rfl⟩ (st := [jv_i 0, .ref (s0.heap.size + (148 : Int).toNat)]) rfl rfl ⟨rfl, rfl⟩ dL_spell_4 (fun r_4 g_4 h => ?_) (fun E gx h => ?_)
  rotate_left 1
  · rcases h with ⟨rfl, h⟩ | ⟨rfl, h⟩
    · refine jv_catch1 C htab ⟨rfl, rfl⟩ (by decide) kx_L_13 kz_IndexOutOfBoundsException (fun q => ?_)
      refine jv_astore_n (ls' := [some (.ref (s0.heap.size + (0 : Int).toNat)), some (jv_i a1), some (.ref (s0.heap.size + (148 : Int).toNat)), some (.ref q)]) C dL_spell_12 (Nat.lt_of_lt_of_eq (Nat.le_of_ble_eq_true rfl) hml) rfl ?_
      refine jv_const C dL_spell_13 ?_
      exact jv_xret (jv_iret C hr hlk ⟨_, rfl, h⟩ dL_spell_14 ⟨rfl, rfl⟩)
    · refine jv_catch2 C hT htab ⟨rfl, rfl⟩ ⟨by decide, by decide⟩ kx_L_13 kx_L_15 kz_IllegalStateException (by decide +kernel) (fun q => ?_)
      refine jv_astore_n (ls' := [some (.ref (s0.heap.size + (0 : Int).toNat)), some (jv_i a1), some (.ref (s0.heap.size + (148 : Int).toNat)), some (.ref q)]) C dL_spell_15 (Nat.lt_of_lt_of_eq (Nat.le_of_ble_eq_true rfl) hml) rfl ?_
      refine jv_const C dL_spell_16 ?_
      exact jv_xret (jv_iret C hr hlk ⟨_, rfl, h⟩ dL_spell_17 ⟨rfl, rfl⟩)
  obtain ⟨hr_7, h⟩ := h
  refine jv_i2l C hr_7 dL_spell_7 ?_
  obtain ⟨hb_8, h⟩ := h
  refine jv_last C sS_148 rfl hb_8 dL_spell_8 (jv_gm (fun g_8 eg_8 => ?_))
  replace h := h g_8 eg_8
  refine jv_goto (tgt := 18) C dL_spell_9 rfl ?_
  refine jv_const C dL_spell_18 ?_
  exact jv_xret (jv_iret C hr hlk ⟨_, rfl, h⟩ dL_spell_19 ⟨rfl, rfl⟩)

def wp_L_insert (a1 : Int) (Q : Int → jv_Mem → Prop) (g : jv_Mem) : Prop :=
  (wp_X8_insert a1 (fun (r_4 : Int) (g_4 : jv_Mem) => (jv_r r_4 ∧ (((0 : Int) ≤ 0 ∧ 0 < (1 : Int)) ∧ (∀ g_8 : jv_Mem, g_8 = jv_up g_4 148 0 r_4 → Q 0 g_8)))) (fun (E : String) (gx : jv_Mem) => (E = "java/lang/IndexOutOfBoundsException" ∧ Q 1 gx) ∨ (E = "java/lang/IllegalStateException" ∧ Q 2 gx)) g)
set_option maxHeartbeats 4000000 in
set_option maxRecDepth 100000 in
theorem M_L_insert {l : Launch} {s0 : State} {b0 : Addr} {D : va_G} {ids : Nat → ClassId} {g : jv_Mem} {a1 : Int} {Q : Int → jv_Mem → Prop} (hT : jv_T l s0 b0) (h : wp_L_insert a1 Q g) : jv_MW l s0 b0 D ids yL_insert cL_insert 4 (some .int) [(0, 9, 12, 13), (0, 9, 15, 15)] 8 137 2 12 jv_SH g [.ref (s0.heap.size + (0 : Int).toNat), jv_i a1, .ref (s0.heap.size + (148 : Int).toNat)] (jv_qi Q) := by
  refine jv_MW.of (by decide +kernel) rfl rfl (fun p e s m args below meth c C hml hr hlk htab => ?_)
  replace C : jv_C p s m args c cL_insert RL s0 b0 D ids := C
  show jv_V p l e (jv_rm 8 137 2 12) s m args below meth c 0 0 (jv_ZX below s0 D ids jv_SH (jv_qi Q) (fun _ _ => False) args s 2 12) s0 D ids none jv_SH g 0 [some (.ref (s0.heap.size + (0 : Int).toNat)), some (jv_i a1), some (.ref (s0.heap.size + (148 : Int).toNat)), none] []
  unfold wp_L_insert at h
  refine jv_aload_n C dL_insert_0 rfl ?_
  refine jv_const C dL_insert_1 ?_
  refine jv_aload_n C dL_insert_2 rfl ?_
  refine jv_iload_n C dL_insert_3 rfl ?_
  refine jv_callVXi C (M_X8_insert hT h) kw_L_17 sS_0 rfl rfl ⟨rfl, rfl⟩ (st := [jv_i 0, .ref (s0.heap.size + (148 : Int).toNat)]) rfl rfl ⟨rfl, rfl⟩ dL_insert_4 (fun r_4 g_4 h => ?_) (fun E gx h => ?_)
  rotate_left 1
  · rcases h with ⟨rfl, h⟩ | ⟨rfl, h⟩
    · refine jv_catch1 C htab ⟨rfl, rfl⟩ (by decide) kx_L_13 kz_IndexOutOfBoundsException (fun q => ?_)
      refine jv_astore_n (ls' := [some (.ref (s0.heap.size + (0 : Int).toNat)), some (jv_i a1), some (.ref (s0.heap.size + (148 : Int).toNat)), some (.ref q)]) C dL_insert_12 (Nat.lt_of_lt_of_eq (Nat.le_of_ble_eq_true rfl) hml) rfl ?_
      refine jv_const C dL_insert_13 ?_
      exact jv_xret (jv_iret C hr hlk ⟨_, rfl, h⟩ dL_insert_14 ⟨rfl, rfl⟩)
    · refine jv_catch2 C hT htab ⟨rfl, rfl⟩ ⟨by decide, by decide⟩ kx_L_13 kx_L_15 kz_IllegalStateException (by decide +kernel) (fun q => ?_)
      refine jv_astore_n (ls' := [some (.ref (s0.heap.size + (0 : Int).toNat)), some (jv_i a1), some (.ref (s0.heap.size + (148 : Int).toNat)), some (.ref q)]) C dL_insert_15 (Nat.lt_of_lt_of_eq (Nat.le_of_ble_eq_true rfl) hml) rfl ?_
      refine jv_const C dL_insert_16 ?_
      exact jv_xret (jv_iret C hr hlk ⟨_, rfl, h⟩ dL_insert_17 ⟨rfl, rfl⟩)
  obtain ⟨hr_7, h⟩ := h
  refine jv_i2l C hr_7 dL_insert_7 ?_
  obtain ⟨hb_8, h⟩ := h
  refine jv_last C sS_148 rfl hb_8 dL_insert_8 (jv_gm (fun g_8 eg_8 => ?_))
  replace h := h g_8 eg_8
  refine jv_goto (tgt := 18) C dL_insert_9 rfl ?_
  refine jv_const C dL_insert_18 ?_
  exact jv_xret (jv_iret C hr hlk ⟨_, rfl, h⟩ dL_insert_19 ⟨rfl, rfl⟩)

def wp_L_charAt (a1 : Int) (Q : Int → jv_Mem → Prop) (g : jv_Mem) : Prop :=
  (wp_X8_charAt a1 (fun (r_4 : Int) (g_4 : jv_Mem) => (jv_r r_4 ∧ (((0 : Int) ≤ 0 ∧ 0 < (1 : Int)) ∧ (∀ g_8 : jv_Mem, g_8 = jv_up g_4 148 0 r_4 → Q 0 g_8)))) (fun (E : String) (gx : jv_Mem) => (E = "java/util/NoSuchElementException" ∧ Q 1 gx)) g)
set_option maxHeartbeats 4000000 in
set_option maxRecDepth 100000 in
theorem M_L_charAt {l : Launch} {s0 : State} {b0 : Addr} {D : va_G} {ids : Nat → ClassId} {g : jv_Mem} {a1 : Int} {Q : Int → jv_Mem → Prop} (hT : jv_T l s0 b0) (h : wp_L_charAt a1 Q g) : jv_MW l s0 b0 D ids yL_charAt cL_charAt 4 (some .int) [(0, 9, 12, 24)] 7 117 1 6 jv_SH g [.ref (s0.heap.size + (0 : Int).toNat), jv_i a1, .ref (s0.heap.size + (148 : Int).toNat)] (jv_qi Q) := by
  refine jv_MW.of (by decide +kernel) rfl rfl (fun p e s m args below meth c C hml hr hlk htab => ?_)
  replace C : jv_C p s m args c cL_charAt RL s0 b0 D ids := C
  show jv_V p l e (jv_rm 7 117 1 6) s m args below meth c 0 0 (jv_ZX below s0 D ids jv_SH (jv_qi Q) (fun _ _ => False) args s 1 6) s0 D ids none jv_SH g 0 [some (.ref (s0.heap.size + (0 : Int).toNat)), some (jv_i a1), some (.ref (s0.heap.size + (148 : Int).toNat)), none] []
  unfold wp_L_charAt at h
  refine jv_aload_n C dL_charAt_0 rfl ?_
  refine jv_const C dL_charAt_1 ?_
  refine jv_aload_n C dL_charAt_2 rfl ?_
  refine jv_iload_n C dL_charAt_3 rfl ?_
  refine jv_callVXi C (M_X8_charAt hT h) kw_L_20 sS_0 rfl rfl ⟨rfl, rfl⟩ (st := [jv_i 0, .ref (s0.heap.size + (148 : Int).toNat)]) rfl rfl ⟨rfl, rfl⟩ dL_charAt_4 (fun r_4 g_4 h => ?_) (fun E gx h => ?_)
  rotate_left 1
  · obtain ⟨rfl, h⟩ := h
    refine jv_catch1 C htab ⟨rfl, rfl⟩ (by decide) kx_L_24 kz_NoSuchElementException (fun q => ?_)
    refine jv_astore_n (ls' := [some (.ref (s0.heap.size + (0 : Int).toNat)), some (jv_i a1), some (.ref (s0.heap.size + (148 : Int).toNat)), some (.ref q)]) C dL_charAt_12 (Nat.lt_of_lt_of_eq (Nat.le_of_ble_eq_true rfl) hml) rfl ?_
    refine jv_const C dL_charAt_13 ?_
    exact jv_xret (jv_iret C hr hlk ⟨_, rfl, h⟩ dL_charAt_14 ⟨rfl, rfl⟩)
  obtain ⟨hr_7, h⟩ := h
  refine jv_i2l C hr_7 dL_charAt_7 ?_
  obtain ⟨hb_8, h⟩ := h
  refine jv_last C sS_148 rfl hb_8 dL_charAt_8 (jv_gm (fun g_8 eg_8 => ?_))
  replace h := h g_8 eg_8
  refine jv_goto (tgt := 15) C dL_charAt_9 rfl ?_
  refine jv_const C dL_charAt_15 ?_
  exact jv_xret (jv_iret C hr hlk ⟨_, rfl, h⟩ dL_charAt_16 ⟨rfl, rfl⟩)

def wp_L_addWord (a1 : Int) (Q : Int → jv_Mem → Prop) (g : jv_Mem) : Prop :=
  (wp_X8_addWord a1 (fun (r_4 : Int) (g_4 : jv_Mem) => (jv_r r_4 ∧ (((0 : Int) ≤ 0 ∧ 0 < (1 : Int)) ∧ (∀ g_8 : jv_Mem, g_8 = jv_up g_4 148 0 r_4 → Q 0 g_8)))) (fun (E : String) (gx : jv_Mem) => (E = "java/lang/IllegalArgumentException" ∧ Q 1 gx) ∨ (E = "java/lang/IllegalStateException" ∧ Q 2 gx)) g)
set_option maxHeartbeats 4000000 in
set_option maxRecDepth 100000 in
theorem M_L_addWord {l : Launch} {s0 : State} {b0 : Addr} {D : va_G} {ids : Nat → ClassId} {g : jv_Mem} {a1 : Int} {Q : Int → jv_Mem → Prop} (hT : jv_T l s0 b0) (h : wp_L_addWord a1 Q g) : jv_MW l s0 b0 D ids yL_addWord cL_addWord 4 (some .int) [(0, 9, 12, 29), (0, 9, 15, 15)] 8 138 2 12 jv_SH g [.ref (s0.heap.size + (0 : Int).toNat), jv_i a1, .ref (s0.heap.size + (148 : Int).toNat)] (jv_qi Q) := by
  refine jv_MW.of (by decide +kernel) rfl rfl (fun p e s m args below meth c C hml hr hlk htab => ?_)
  replace C : jv_C p s m args c cL_addWord RL s0 b0 D ids := C
  show jv_V p l e (jv_rm 8 138 2 12) s m args below meth c 0 0 (jv_ZX below s0 D ids jv_SH (jv_qi Q) (fun _ _ => False) args s 2 12) s0 D ids none jv_SH g 0 [some (.ref (s0.heap.size + (0 : Int).toNat)), some (jv_i a1), some (.ref (s0.heap.size + (148 : Int).toNat)), none] []
  unfold wp_L_addWord at h
  refine jv_aload_n C dL_addWord_0 rfl ?_
  refine jv_const C dL_addWord_1 ?_
  refine jv_aload_n C dL_addWord_2 rfl ?_
  refine jv_iload_n C dL_addWord_3 rfl ?_
  refine jv_callVXi C (M_X8_addWord hT h) kw_L_26 sS_0 rfl rfl ⟨rfl, rfl⟩ (st := [jv_i 0, .ref (s0.heap.size + (148 : Int).toNat)]) rfl rfl ⟨rfl, rfl⟩ dL_addWord_4 (fun r_4 g_4 h => ?_) (fun E gx h => ?_)
  rotate_left 1
  · rcases h with ⟨rfl, h⟩ | ⟨rfl, h⟩
    · refine jv_catch1 C htab ⟨rfl, rfl⟩ (by decide) kx_L_29 kz_IllegalArgumentException (fun q => ?_)
      refine jv_astore_n (ls' := [some (.ref (s0.heap.size + (0 : Int).toNat)), some (jv_i a1), some (.ref (s0.heap.size + (148 : Int).toNat)), some (.ref q)]) C dL_addWord_12 (Nat.lt_of_lt_of_eq (Nat.le_of_ble_eq_true rfl) hml) rfl ?_
      refine jv_const C dL_addWord_13 ?_
      exact jv_xret (jv_iret C hr hlk ⟨_, rfl, h⟩ dL_addWord_14 ⟨rfl, rfl⟩)
    · refine jv_catch2 C hT htab ⟨rfl, rfl⟩ ⟨by decide, by decide⟩ kx_L_29 kx_L_15 kz_IllegalStateException (by decide +kernel) (fun q => ?_)
      refine jv_astore_n (ls' := [some (.ref (s0.heap.size + (0 : Int).toNat)), some (jv_i a1), some (.ref (s0.heap.size + (148 : Int).toNat)), some (.ref q)]) C dL_addWord_15 (Nat.lt_of_lt_of_eq (Nat.le_of_ble_eq_true rfl) hml) rfl ?_
      refine jv_const C dL_addWord_16 ?_
      exact jv_xret (jv_iret C hr hlk ⟨_, rfl, h⟩ dL_addWord_17 ⟨rfl, rfl⟩)
  obtain ⟨hr_7, h⟩ := h
  refine jv_i2l C hr_7 dL_addWord_7 ?_
  obtain ⟨hb_8, h⟩ := h
  refine jv_last C sS_148 rfl hb_8 dL_addWord_8 (jv_gm (fun g_8 eg_8 => ?_))
  replace h := h g_8 eg_8
  refine jv_goto (tgt := 18) C dL_addWord_9 rfl ?_
  refine jv_const C dL_addWord_18 ?_
  exact jv_xret (jv_iret C hr hlk ⟨_, rfl, h⟩ dL_addWord_19 ⟨rfl, rfl⟩)

def wp_L_setWeight (a1 : Int) (a2 : Int) (Q : Int → jv_Mem → Prop) (g : jv_Mem) : Prop :=
  (wp_X8_setWeight a1 a2 (fun (r_5 : Int) (g_5 : jv_Mem) => (jv_r r_5 ∧ (((0 : Int) ≤ 0 ∧ 0 < (1 : Int)) ∧ (∀ g_9 : jv_Mem, g_9 = jv_up g_5 148 0 r_5 → Q 0 g_9)))) (fun (E : String) (gx : jv_Mem) => (E = "java/lang/IndexOutOfBoundsException" ∧ Q 1 gx) ∨ (E = "java/lang/IllegalArgumentException" ∧ Q 2 gx)) g)
set_option maxHeartbeats 4000000 in
set_option maxRecDepth 100000 in
theorem M_L_setWeight {l : Launch} {s0 : State} {b0 : Addr} {D : va_G} {ids : Nat → ClassId} {g : jv_Mem} {a1 : Int} {a2 : Int} {Q : Int → jv_Mem → Prop} (hT : jv_T l s0 b0) (h : wp_L_setWeight a1 a2 Q g) : jv_MW l s0 b0 D ids yL_setWeight cL_setWeight 5 (some .int) [(0, 10, 13, 13), (0, 10, 17, 29)] 8 140 2 12 jv_SH g [.ref (s0.heap.size + (0 : Int).toNat), jv_i a1, jv_i a2, .ref (s0.heap.size + (148 : Int).toNat)] (jv_qi Q) := by
  refine jv_MW.of (by decide +kernel) rfl rfl (fun p e s m args below meth c C hml hr hlk htab => ?_)
  replace C : jv_C p s m args c cL_setWeight RL s0 b0 D ids := C
  show jv_V p l e (jv_rm 8 140 2 12) s m args below meth c 0 0 (jv_ZX below s0 D ids jv_SH (jv_qi Q) (fun _ _ => False) args s 2 12) s0 D ids none jv_SH g 0 [some (.ref (s0.heap.size + (0 : Int).toNat)), some (jv_i a1), some (jv_i a2), some (.ref (s0.heap.size + (148 : Int).toNat)), none] []
  unfold wp_L_setWeight at h
  refine jv_aload_n C dL_setWeight_0 rfl ?_
  refine jv_const C dL_setWeight_1 ?_
  refine jv_aload_n C dL_setWeight_2 rfl ?_
  refine jv_iload_n C dL_setWeight_3 rfl ?_
  refine jv_iload_n C dL_setWeight_4 rfl ?_
  refine jv_callVXi C (M_X8_setWeight hT h) kw_L_31 sS_0 rfl rfl ⟨rfl, rfl⟩ (st := [jv_i 0, .ref (s0.heap.size + (148 : Int).toNat)]) rfl rfl ⟨rfl, rfl⟩ dL_setWeight_5 (fun r_5 g_5 h => ?_) (fun E gx h => ?_)
  rotate_left 1
  · rcases h with ⟨rfl, h⟩ | ⟨rfl, h⟩
    · refine jv_catch1 C htab ⟨rfl, rfl⟩ (by decide) kx_L_13 kz_IndexOutOfBoundsException (fun q => ?_)
      refine jv_astore (ls' := [some (.ref (s0.heap.size + (0 : Int).toNat)), some (jv_i a1), some (jv_i a2), some (.ref (s0.heap.size + (148 : Int).toNat)), some (.ref q)]) C dL_setWeight_13 (Nat.lt_of_lt_of_eq (Nat.le_of_ble_eq_true rfl) hml) rfl ?_
      refine jv_const C dL_setWeight_15 ?_
      exact jv_xret (jv_iret C hr hlk ⟨_, rfl, h⟩ dL_setWeight_16 ⟨rfl, rfl⟩)
    · refine jv_catch2 C hT htab ⟨rfl, rfl⟩ ⟨by decide, by decide⟩ kx_L_13 kx_L_29 kz_IllegalArgumentException (by decide +kernel) (fun q => ?_)
      refine jv_astore (ls' := [some (.ref (s0.heap.size + (0 : Int).toNat)), some (jv_i a1), some (jv_i a2), some (.ref (s0.heap.size + (148 : Int).toNat)), some (.ref q)]) C dL_setWeight_17 (Nat.lt_of_lt_of_eq (Nat.le_of_ble_eq_true rfl) hml) rfl ?_
      refine jv_const C dL_setWeight_19 ?_
      exact jv_xret (jv_iret C hr hlk ⟨_, rfl, h⟩ dL_setWeight_20 ⟨rfl, rfl⟩)
  obtain ⟨hr_8, h⟩ := h
  refine jv_i2l C hr_8 dL_setWeight_8 ?_
  obtain ⟨hb_9, h⟩ := h
  refine jv_last C sS_148 rfl hb_9 dL_setWeight_9 (jv_gm (fun g_9 eg_9 => ?_))
  replace h := h g_9 eg_9
  refine jv_goto (tgt := 21) C dL_setWeight_10 rfl ?_
  refine jv_const C dL_setWeight_21 ?_
  exact jv_xret (jv_iret C hr hlk ⟨_, rfl, h⟩ dL_setWeight_22 ⟨rfl, rfl⟩)

def wp_L_fix (a1 : Int) (a2 : Int) (Q : Int → jv_Mem → Prop) (g : jv_Mem) : Prop :=
  (wp_X8_fix a1 a2 (fun (r_5 : Int) (g_5 : jv_Mem) => (jv_r r_5 ∧ (((0 : Int) ≤ 0 ∧ 0 < (1 : Int)) ∧ (∀ g_9 : jv_Mem, g_9 = jv_up g_5 148 0 r_5 → Q 0 g_9)))) (fun (E : String) (gx : jv_Mem) => (E = "java/lang/IndexOutOfBoundsException" ∧ Q 1 gx)) g)
set_option maxHeartbeats 4000000 in
set_option maxRecDepth 100000 in
theorem M_L_fix {l : Launch} {s0 : State} {b0 : Addr} {D : va_G} {ids : Nat → ClassId} {g : jv_Mem} {a1 : Int} {a2 : Int} {Q : Int → jv_Mem → Prop} (hT : jv_T l s0 b0) (h : wp_L_fix a1 a2 Q g) : jv_MW l s0 b0 D ids yL_fix cL_fix 5 (some .int) [(0, 10, 13, 13)] 8 139 2 12 jv_SH g [.ref (s0.heap.size + (0 : Int).toNat), jv_i a1, jv_i a2, .ref (s0.heap.size + (148 : Int).toNat)] (jv_qi Q) := by
  refine jv_MW.of (by decide +kernel) rfl rfl (fun p e s m args below meth c C hml hr hlk htab => ?_)
  replace C : jv_C p s m args c cL_fix RL s0 b0 D ids := C
  show jv_V p l e (jv_rm 8 139 2 12) s m args below meth c 0 0 (jv_ZX below s0 D ids jv_SH (jv_qi Q) (fun _ _ => False) args s 2 12) s0 D ids none jv_SH g 0 [some (.ref (s0.heap.size + (0 : Int).toNat)), some (jv_i a1), some (jv_i a2), some (.ref (s0.heap.size + (148 : Int).toNat)), none] []
  unfold wp_L_fix at h
  refine jv_aload_n C dL_fix_0 rfl ?_
  refine jv_const C dL_fix_1 ?_
  refine jv_aload_n C dL_fix_2 rfl ?_
  refine jv_iload_n C dL_fix_3 rfl ?_
  refine jv_iload_n C dL_fix_4 rfl ?_
  refine jv_callVXi C (M_X8_fix hT h) kw_L_35 sS_0 rfl rfl ⟨rfl, rfl⟩ (st := [jv_i 0, .ref (s0.heap.size + (148 : Int).toNat)]) rfl rfl ⟨rfl, rfl⟩ dL_fix_5 (fun r_5 g_5 h => ?_) (fun E gx h => ?_)
  rotate_left 1
  · obtain ⟨rfl, h⟩ := h
    refine jv_catch1 C htab ⟨rfl, rfl⟩ (by decide) kx_L_13 kz_IndexOutOfBoundsException (fun q => ?_)
    refine jv_astore (ls' := [some (.ref (s0.heap.size + (0 : Int).toNat)), some (jv_i a1), some (jv_i a2), some (.ref (s0.heap.size + (148 : Int).toNat)), some (.ref q)]) C dL_fix_13 (Nat.lt_of_lt_of_eq (Nat.le_of_ble_eq_true rfl) hml) rfl ?_
    refine jv_const C dL_fix_15 ?_
    exact jv_xret (jv_iret C hr hlk ⟨_, rfl, h⟩ dL_fix_16 ⟨rfl, rfl⟩)
  obtain ⟨hr_8, h⟩ := h
  refine jv_i2l C hr_8 dL_fix_8 ?_
  obtain ⟨hb_9, h⟩ := h
  refine jv_last C sS_148 rfl hb_9 dL_fix_9 (jv_gm (fun g_9 eg_9 => ?_))
  replace h := h g_9 eg_9
  refine jv_goto (tgt := 17) C dL_fix_10 rfl ?_
  refine jv_const C dL_fix_17 ?_
  exact jv_xret (jv_iret C hr hlk ⟨_, rfl, h⟩ dL_fix_18 ⟨rfl, rfl⟩)

def wp_L_fillAt (a1 : Int) (Q : Int → jv_Mem → Prop) (g : jv_Mem) : Prop :=
  (wp_X8_fillAt a1 (fun (r_4 : Int) (g_4 : jv_Mem) => (jv_r r_4 ∧ (((0 : Int) ≤ 0 ∧ 0 < (1 : Int)) ∧ (∀ g_8 : jv_Mem, g_8 = jv_up g_4 148 0 r_4 → Q 0 g_8)))) (fun (E : String) (gx : jv_Mem) => (E = "java/lang/IndexOutOfBoundsException" ∧ Q 1 gx) ∨ (E = "java/util/NoSuchElementException" ∧ Q 2 gx)) g)
set_option maxHeartbeats 4000000 in
set_option maxRecDepth 100000 in
theorem M_L_fillAt {l : Launch} {s0 : State} {b0 : Addr} {D : va_G} {ids : Nat → ClassId} {g : jv_Mem} {a1 : Int} {Q : Int → jv_Mem → Prop} (hT : jv_T l s0 b0) (h : wp_L_fillAt a1 Q g) : jv_MW l s0 b0 D ids yL_fillAt cL_fillAt 4 (some .int) [(0, 9, 12, 13), (0, 9, 15, 24)] 8 137 2 12 jv_SH g [.ref (s0.heap.size + (0 : Int).toNat), jv_i a1, .ref (s0.heap.size + (148 : Int).toNat)] (jv_qi Q) := by
  refine jv_MW.of (by decide +kernel) rfl rfl (fun p e s m args below meth c C hml hr hlk htab => ?_)
  replace C : jv_C p s m args c cL_fillAt RL s0 b0 D ids := C
  show jv_V p l e (jv_rm 8 137 2 12) s m args below meth c 0 0 (jv_ZX below s0 D ids jv_SH (jv_qi Q) (fun _ _ => False) args s 2 12) s0 D ids none jv_SH g 0 [some (.ref (s0.heap.size + (0 : Int).toNat)), some (jv_i a1), some (.ref (s0.heap.size + (148 : Int).toNat)), none] []
  unfold wp_L_fillAt at h
  refine jv_aload_n C dL_fillAt_0 rfl ?_
  refine jv_const C dL_fillAt_1 ?_
  refine jv_aload_n C dL_fillAt_2 rfl ?_
  refine jv_iload_n C dL_fillAt_3 rfl ?_
  refine jv_callVXi C (M_X8_fillAt hT h) kw_L_38 sS_0 rfl rfl ⟨rfl, rfl⟩ (st := [jv_i 0, .ref (s0.heap.size + (148 : Int).toNat)]) rfl rfl ⟨rfl, rfl⟩ dL_fillAt_4 (fun r_4 g_4 h => ?_) (fun E gx h => ?_)
  rotate_left 1
  · rcases h with ⟨rfl, h⟩ | ⟨rfl, h⟩
    · refine jv_catch1 C htab ⟨rfl, rfl⟩ (by decide) kx_L_13 kz_IndexOutOfBoundsException (fun q => ?_)
      refine jv_astore_n (ls' := [some (.ref (s0.heap.size + (0 : Int).toNat)), some (jv_i a1), some (.ref (s0.heap.size + (148 : Int).toNat)), some (.ref q)]) C dL_fillAt_12 (Nat.lt_of_lt_of_eq (Nat.le_of_ble_eq_true rfl) hml) rfl ?_
      refine jv_const C dL_fillAt_13 ?_
      exact jv_xret (jv_iret C hr hlk ⟨_, rfl, h⟩ dL_fillAt_14 ⟨rfl, rfl⟩)
    · refine jv_catch2 C hT htab ⟨rfl, rfl⟩ ⟨by decide, by decide⟩ kx_L_13 kx_L_24 kz_NoSuchElementException (by decide +kernel) (fun q => ?_)
      refine jv_astore_n (ls' := [some (.ref (s0.heap.size + (0 : Int).toNat)), some (jv_i a1), some (.ref (s0.heap.size + (148 : Int).toNat)), some (.ref q)]) C dL_fillAt_15 (Nat.lt_of_lt_of_eq (Nat.le_of_ble_eq_true rfl) hml) rfl ?_
      refine jv_const C dL_fillAt_16 ?_
      exact jv_xret (jv_iret C hr hlk ⟨_, rfl, h⟩ dL_fillAt_17 ⟨rfl, rfl⟩)
  obtain ⟨hr_7, h⟩ := h
  refine jv_i2l C hr_7 dL_fillAt_7 ?_
  obtain ⟨hb_8, h⟩ := h
  refine jv_last C sS_148 rfl hb_8 dL_fillAt_8 (jv_gm (fun g_8 eg_8 => ?_))
  replace h := h g_8 eg_8
  refine jv_goto (tgt := 18) C dL_fillAt_9 rfl ?_
  refine jv_const C dL_fillAt_18 ?_
  exact jv_xret (jv_iret C hr hlk ⟨_, rfl, h⟩ dL_fillAt_19 ⟨rfl, rfl⟩)

def wp_L_clue (a1 : Int) (Q : Int → jv_Mem → Prop) (g : jv_Mem) : Prop :=
  (wp_X8_clue a1 (fun (r_4 : Int) (g_4 : jv_Mem) => (jv_r r_4 ∧ (((0 : Int) ≤ 0 ∧ 0 < (1 : Int)) ∧ (∀ g_8 : jv_Mem, g_8 = jv_up g_4 148 0 r_4 → Q 0 g_8)))) (fun (E : String) (gx : jv_Mem) => (E = "java/lang/IndexOutOfBoundsException" ∧ Q 1 gx) ∨ (E = "java/lang/IllegalStateException" ∧ Q 2 gx)) g)
set_option maxHeartbeats 4000000 in
set_option maxRecDepth 100000 in
theorem M_L_clue {l : Launch} {s0 : State} {b0 : Addr} {D : va_G} {ids : Nat → ClassId} {g : jv_Mem} {a1 : Int} {Q : Int → jv_Mem → Prop} (hT : jv_T l s0 b0) (h : wp_L_clue a1 Q g) : jv_MW l s0 b0 D ids yL_clue cL_clue 4 (some .int) [(0, 9, 12, 13), (0, 9, 15, 15)] 8 137 2 12 jv_SH g [.ref (s0.heap.size + (0 : Int).toNat), jv_i a1, .ref (s0.heap.size + (148 : Int).toNat)] (jv_qi Q) := by
  refine jv_MW.of (by decide +kernel) rfl rfl (fun p e s m args below meth c C hml hr hlk htab => ?_)
  replace C : jv_C p s m args c cL_clue RL s0 b0 D ids := C
  show jv_V p l e (jv_rm 8 137 2 12) s m args below meth c 0 0 (jv_ZX below s0 D ids jv_SH (jv_qi Q) (fun _ _ => False) args s 2 12) s0 D ids none jv_SH g 0 [some (.ref (s0.heap.size + (0 : Int).toNat)), some (jv_i a1), some (.ref (s0.heap.size + (148 : Int).toNat)), none] []
  unfold wp_L_clue at h
  refine jv_aload_n C dL_clue_0 rfl ?_
  refine jv_const C dL_clue_1 ?_
  refine jv_aload_n C dL_clue_2 rfl ?_
  refine jv_iload_n C dL_clue_3 rfl ?_
  refine jv_callVXi C (M_X8_clue hT h) kw_L_41 sS_0 rfl rfl ⟨rfl, rfl⟩ (st := [jv_i 0, .ref (s0.heap.size + (148 : Int).toNat)]) rfl rfl ⟨rfl, rfl⟩ dL_clue_4 (fun r_4 g_4 h => ?_) (fun E gx h => ?_)
  rotate_left 1
  · rcases h with ⟨rfl, h⟩ | ⟨rfl, h⟩
    · refine jv_catch1 C htab ⟨rfl, rfl⟩ (by decide) kx_L_13 kz_IndexOutOfBoundsException (fun q => ?_)
      refine jv_astore_n (ls' := [some (.ref (s0.heap.size + (0 : Int).toNat)), some (jv_i a1), some (.ref (s0.heap.size + (148 : Int).toNat)), some (.ref q)]) C dL_clue_12 (Nat.lt_of_lt_of_eq (Nat.le_of_ble_eq_true rfl) hml) rfl ?_
      refine jv_const C dL_clue_13 ?_
      exact jv_xret (jv_iret C hr hlk ⟨_, rfl, h⟩ dL_clue_14 ⟨rfl, rfl⟩)
    · refine jv_catch2 C hT htab ⟨rfl, rfl⟩ ⟨by decide, by decide⟩ kx_L_13 kx_L_15 kz_IllegalStateException (by decide +kernel) (fun q => ?_)
      refine jv_astore_n (ls' := [some (.ref (s0.heap.size + (0 : Int).toNat)), some (jv_i a1), some (.ref (s0.heap.size + (148 : Int).toNat)), some (.ref q)]) C dL_clue_15 (Nat.lt_of_lt_of_eq (Nat.le_of_ble_eq_true rfl) hml) rfl ?_
      refine jv_const C dL_clue_16 ?_
      exact jv_xret (jv_iret C hr hlk ⟨_, rfl, h⟩ dL_clue_17 ⟨rfl, rfl⟩)
  obtain ⟨hr_7, h⟩ := h
  refine jv_i2l C hr_7 dL_clue_7 ?_
  obtain ⟨hb_8, h⟩ := h
  refine jv_last C sS_148 rfl hb_8 dL_clue_8 (jv_gm (fun g_8 eg_8 => ?_))
  replace h := h g_8 eg_8
  refine jv_goto (tgt := 18) C dL_clue_9 rfl ?_
  refine jv_const C dL_clue_18 ?_
  exact jv_xret (jv_iret C hr hlk ⟨_, rfl, h⟩ dL_clue_19 ⟨rfl, rfl⟩)

def wp_L_edit (a1 : Int) (a2 : Int) (Q : Int → jv_Mem → Prop) (g : jv_Mem) : Prop :=
  (wp_X8_edit a1 a2 (fun (r_5 : Int) (g_5 : jv_Mem) => (jv_r r_5 ∧ (((0 : Int) ≤ 0 ∧ 0 < (1 : Int)) ∧ (∀ g_9 : jv_Mem, g_9 = jv_up g_5 148 0 r_5 → Q 0 g_9)))) (fun (E : String) (gx : jv_Mem) => (E = "java/lang/IndexOutOfBoundsException" ∧ Q 1 gx) ∨ (E = "java/lang/IllegalStateException" ∧ Q 2 gx)) g)
set_option maxHeartbeats 4000000 in
set_option maxRecDepth 100000 in
theorem M_L_edit {l : Launch} {s0 : State} {b0 : Addr} {D : va_G} {ids : Nat → ClassId} {g : jv_Mem} {a1 : Int} {a2 : Int} {Q : Int → jv_Mem → Prop} (hT : jv_T l s0 b0) (h : wp_L_edit a1 a2 Q g) : jv_MW l s0 b0 D ids yL_edit cL_edit 5 (some .int) [(0, 10, 13, 13), (0, 10, 17, 15)] 8 138 2 12 jv_SH g [.ref (s0.heap.size + (0 : Int).toNat), jv_i a1, jv_i a2, .ref (s0.heap.size + (148 : Int).toNat)] (jv_qi Q) := by
  refine jv_MW.of (by decide +kernel) rfl rfl (fun p e s m args below meth c C hml hr hlk htab => ?_)
  replace C : jv_C p s m args c cL_edit RL s0 b0 D ids := C
  show jv_V p l e (jv_rm 8 138 2 12) s m args below meth c 0 0 (jv_ZX below s0 D ids jv_SH (jv_qi Q) (fun _ _ => False) args s 2 12) s0 D ids none jv_SH g 0 [some (.ref (s0.heap.size + (0 : Int).toNat)), some (jv_i a1), some (jv_i a2), some (.ref (s0.heap.size + (148 : Int).toNat)), none] []
  unfold wp_L_edit at h
  refine jv_aload_n C dL_edit_0 rfl ?_
  refine jv_const C dL_edit_1 ?_
  refine jv_aload_n C dL_edit_2 rfl ?_
  refine jv_iload_n C dL_edit_3 rfl ?_
  refine jv_iload_n C dL_edit_4 rfl ?_
  refine jv_callVXi C (M_X8_edit hT h) kw_L_44 sS_0 rfl rfl ⟨rfl, rfl⟩ (st := [jv_i 0, .ref (s0.heap.size + (148 : Int).toNat)]) rfl rfl ⟨rfl, rfl⟩ dL_edit_5 (fun r_5 g_5 h => ?_) (fun E gx h => ?_)
  rotate_left 1
  · rcases h with ⟨rfl, h⟩ | ⟨rfl, h⟩
    · refine jv_catch1 C htab ⟨rfl, rfl⟩ (by decide) kx_L_13 kz_IndexOutOfBoundsException (fun q => ?_)
      refine jv_astore (ls' := [some (.ref (s0.heap.size + (0 : Int).toNat)), some (jv_i a1), some (jv_i a2), some (.ref (s0.heap.size + (148 : Int).toNat)), some (.ref q)]) C dL_edit_13 (Nat.lt_of_lt_of_eq (Nat.le_of_ble_eq_true rfl) hml) rfl ?_
      refine jv_const C dL_edit_15 ?_
      exact jv_xret (jv_iret C hr hlk ⟨_, rfl, h⟩ dL_edit_16 ⟨rfl, rfl⟩)
    · refine jv_catch2 C hT htab ⟨rfl, rfl⟩ ⟨by decide, by decide⟩ kx_L_13 kx_L_15 kz_IllegalStateException (by decide +kernel) (fun q => ?_)
      refine jv_astore (ls' := [some (.ref (s0.heap.size + (0 : Int).toNat)), some (jv_i a1), some (jv_i a2), some (.ref (s0.heap.size + (148 : Int).toNat)), some (.ref q)]) C dL_edit_17 (Nat.lt_of_lt_of_eq (Nat.le_of_ble_eq_true rfl) hml) rfl ?_
      refine jv_const C dL_edit_19 ?_
      exact jv_xret (jv_iret C hr hlk ⟨_, rfl, h⟩ dL_edit_20 ⟨rfl, rfl⟩)
  obtain ⟨hr_8, h⟩ := h
  refine jv_i2l C hr_8 dL_edit_8 ?_
  obtain ⟨hb_9, h⟩ := h
  refine jv_last C sS_148 rfl hb_9 dL_edit_9 (jv_gm (fun g_9 eg_9 => ?_))
  replace h := h g_9 eg_9
  refine jv_goto (tgt := 21) C dL_edit_10 rfl ?_
  refine jv_const C dL_edit_21 ?_
  exact jv_xret (jv_iret C hr hlk ⟨_, rfl, h⟩ dL_edit_22 ⟨rfl, rfl⟩)

def wp_L_lastUsed (a1 : Int) (Q : Int → jv_Mem → Prop) (g : jv_Mem) : Prop :=
  (wp_X8_lastUsed a1 (fun (r_4 : Int) (g_4 : jv_Mem) => (jv_r r_4 ∧ (((0 : Int) ≤ 0 ∧ 0 < (1 : Int)) ∧ (∀ g_8 : jv_Mem, g_8 = jv_up g_4 148 0 r_4 → Q 0 g_8)))) (fun (E : String) (gx : jv_Mem) => (E = "java/lang/IndexOutOfBoundsException" ∧ Q 1 gx)) g)
set_option maxHeartbeats 4000000 in
set_option maxRecDepth 100000 in
theorem M_L_lastUsed {l : Launch} {s0 : State} {b0 : Addr} {D : va_G} {ids : Nat → ClassId} {g : jv_Mem} {a1 : Int} {Q : Int → jv_Mem → Prop} (hT : jv_T l s0 b0) (h : wp_L_lastUsed a1 Q g) : jv_MW l s0 b0 D ids yL_lastUsed cL_lastUsed 4 (some .int) [(0, 9, 12, 13)] 8 137 1 6 jv_SH g [.ref (s0.heap.size + (0 : Int).toNat), jv_i a1, .ref (s0.heap.size + (148 : Int).toNat)] (jv_qi Q) := by
  refine jv_MW.of (by decide +kernel) rfl rfl (fun p e s m args below meth c C hml hr hlk htab => ?_)
  replace C : jv_C p s m args c cL_lastUsed RL s0 b0 D ids := C
  show jv_V p l e (jv_rm 8 137 1 6) s m args below meth c 0 0 (jv_ZX below s0 D ids jv_SH (jv_qi Q) (fun _ _ => False) args s 1 6) s0 D ids none jv_SH g 0 [some (.ref (s0.heap.size + (0 : Int).toNat)), some (jv_i a1), some (.ref (s0.heap.size + (148 : Int).toNat)), none] []
  unfold wp_L_lastUsed at h
  refine jv_aload_n C dL_lastUsed_0 rfl ?_
  refine jv_const C dL_lastUsed_1 ?_
  refine jv_aload_n C dL_lastUsed_2 rfl ?_
  refine jv_iload_n C dL_lastUsed_3 rfl ?_
  refine jv_callVXi C (M_X8_lastUsed hT h) kw_L_48 sS_0 rfl rfl ⟨rfl, rfl⟩ (st := [jv_i 0, .ref (s0.heap.size + (148 : Int).toNat)]) rfl rfl ⟨rfl, rfl⟩ dL_lastUsed_4 (fun r_4 g_4 h => ?_) (fun E gx h => ?_)
  rotate_left 1
  · obtain ⟨rfl, h⟩ := h
    refine jv_catch1 C htab ⟨rfl, rfl⟩ (by decide) kx_L_13 kz_IndexOutOfBoundsException (fun q => ?_)
    refine jv_astore_n (ls' := [some (.ref (s0.heap.size + (0 : Int).toNat)), some (jv_i a1), some (.ref (s0.heap.size + (148 : Int).toNat)), some (.ref q)]) C dL_lastUsed_12 (Nat.lt_of_lt_of_eq (Nat.le_of_ble_eq_true rfl) hml) rfl ?_
    refine jv_const C dL_lastUsed_13 ?_
    exact jv_xret (jv_iret C hr hlk ⟨_, rfl, h⟩ dL_lastUsed_14 ⟨rfl, rfl⟩)
  obtain ⟨hr_7, h⟩ := h
  refine jv_i2l C hr_7 dL_lastUsed_7 ?_
  obtain ⟨hb_8, h⟩ := h
  refine jv_last C sS_148 rfl hb_8 dL_lastUsed_8 (jv_gm (fun g_8 eg_8 => ?_))
  replace h := h g_8 eg_8
  refine jv_goto (tgt := 15) C dL_lastUsed_9 rfl ?_
  refine jv_const C dL_lastUsed_15 ?_
  exact jv_xret (jv_iret C hr hlk ⟨_, rfl, h⟩ dL_lastUsed_16 ⟨rfl, rfl⟩)

def wp_L_pass (a1 : Int) (Q : Int → jv_Mem → Prop) (g : jv_Mem) : Prop :=
  (wp_X8_pass a1 (fun (r_4 : Int) (g_4 : jv_Mem) => (jv_r r_4 ∧ (((0 : Int) ≤ 0 ∧ 0 < (1 : Int)) ∧ (∀ g_8 : jv_Mem, g_8 = jv_up g_4 148 0 r_4 → Q 0 g_8)))) (fun (E : String) (gx : jv_Mem) => (E = "java/lang/IllegalArgumentException" ∧ Q 1 gx) ∨ (E = "java/lang/IllegalStateException" ∧ Q 2 gx)) g)
set_option maxHeartbeats 4000000 in
set_option maxRecDepth 100000 in
theorem M_L_pass {l : Launch} {s0 : State} {b0 : Addr} {D : va_G} {ids : Nat → ClassId} {g : jv_Mem} {a1 : Int} {Q : Int → jv_Mem → Prop} (hT : jv_T l s0 b0) (h : wp_L_pass a1 Q g) : jv_MW l s0 b0 D ids yL_pass cL_pass 4 (some .int) [(0, 9, 12, 29), (0, 9, 15, 15)] 8 138 2 12 jv_SH g [.ref (s0.heap.size + (0 : Int).toNat), jv_i a1, .ref (s0.heap.size + (148 : Int).toNat)] (jv_qi Q) := by
  refine jv_MW.of (by decide +kernel) rfl rfl (fun p e s m args below meth c C hml hr hlk htab => ?_)
  replace C : jv_C p s m args c cL_pass RL s0 b0 D ids := C
  show jv_V p l e (jv_rm 8 138 2 12) s m args below meth c 0 0 (jv_ZX below s0 D ids jv_SH (jv_qi Q) (fun _ _ => False) args s 2 12) s0 D ids none jv_SH g 0 [some (.ref (s0.heap.size + (0 : Int).toNat)), some (jv_i a1), some (.ref (s0.heap.size + (148 : Int).toNat)), none] []
  unfold wp_L_pass at h
  refine jv_aload_n C dL_pass_0 rfl ?_
  refine jv_const C dL_pass_1 ?_
  refine jv_aload_n C dL_pass_2 rfl ?_
  refine jv_iload_n C dL_pass_3 rfl ?_
  refine jv_callVXi C (M_X8_pass hT h) kw_L_51 sS_0 rfl rfl ⟨rfl, rfl⟩ (st := [jv_i 0, .ref (s0.heap.size + (148 : Int).toNat)]) rfl rfl ⟨rfl, rfl⟩ dL_pass_4 (fun r_4 g_4 h => ?_) (fun E gx h => ?_)
  rotate_left 1
  · rcases h with ⟨rfl, h⟩ | ⟨rfl, h⟩
    · refine jv_catch1 C htab ⟨rfl, rfl⟩ (by decide) kx_L_29 kz_IllegalArgumentException (fun q => ?_)
      refine jv_astore_n (ls' := [some (.ref (s0.heap.size + (0 : Int).toNat)), some (jv_i a1), some (.ref (s0.heap.size + (148 : Int).toNat)), some (.ref q)]) C dL_pass_12 (Nat.lt_of_lt_of_eq (Nat.le_of_ble_eq_true rfl) hml) rfl ?_
      refine jv_const C dL_pass_13 ?_
      exact jv_xret (jv_iret C hr hlk ⟨_, rfl, h⟩ dL_pass_14 ⟨rfl, rfl⟩)
    · refine jv_catch2 C hT htab ⟨rfl, rfl⟩ ⟨by decide, by decide⟩ kx_L_29 kx_L_15 kz_IllegalStateException (by decide +kernel) (fun q => ?_)
      refine jv_astore_n (ls' := [some (.ref (s0.heap.size + (0 : Int).toNat)), some (jv_i a1), some (.ref (s0.heap.size + (148 : Int).toNat)), some (.ref q)]) C dL_pass_15 (Nat.lt_of_lt_of_eq (Nat.le_of_ble_eq_true rfl) hml) rfl ?_
      refine jv_const C dL_pass_16 ?_
      exact jv_xret (jv_iret C hr hlk ⟨_, rfl, h⟩ dL_pass_17 ⟨rfl, rfl⟩)
  obtain ⟨hr_7, h⟩ := h
  refine jv_i2l C hr_7 dL_pass_7 ?_
  obtain ⟨hb_8, h⟩ := h
  refine jv_last C sS_148 rfl hb_8 dL_pass_8 (jv_gm (fun g_8 eg_8 => ?_))
  replace h := h g_8 eg_8
  refine jv_goto (tgt := 18) C dL_pass_9 rfl ?_
  refine jv_const C dL_pass_18 ?_
  exact jv_xret (jv_iret C hr hlk ⟨_, rfl, h⟩ dL_pass_19 ⟨rfl, rfl⟩)

def wp_L_publish (Q : Int → jv_Mem → Prop) (g : jv_Mem) : Prop :=
  (wp_X8_publish (fun (r_3 : Int) (g_3 : jv_Mem) => (jv_r r_3 ∧ (((0 : Int) ≤ 0 ∧ 0 < (1 : Int)) ∧ (∀ g_7 : jv_Mem, g_7 = jv_up g_3 148 0 r_3 → Q 0 g_7)))) (fun (E : String) (gx : jv_Mem) => (E = "java/lang/IllegalStateException" ∧ Q 1 gx)) g)
set_option maxHeartbeats 4000000 in
set_option maxRecDepth 100000 in
theorem M_L_publish {l : Launch} {s0 : State} {b0 : Addr} {D : va_G} {ids : Nat → ClassId} {g : jv_Mem} {Q : Int → jv_Mem → Prop} (hT : jv_T l s0 b0) (h : wp_L_publish Q g) : jv_MW l s0 b0 D ids yL_publish cL_publish 3 (some .int) [(0, 8, 11, 15)] 7 138 1 6 jv_SH g [.ref (s0.heap.size + (0 : Int).toNat), .ref (s0.heap.size + (148 : Int).toNat)] (jv_qi Q) := by
  refine jv_MW.of (by decide +kernel) rfl rfl (fun p e s m args below meth c C hml hr hlk htab => ?_)
  replace C : jv_C p s m args c cL_publish RL s0 b0 D ids := C
  show jv_V p l e (jv_rm 7 138 1 6) s m args below meth c 0 0 (jv_ZX below s0 D ids jv_SH (jv_qi Q) (fun _ _ => False) args s 1 6) s0 D ids none jv_SH g 0 [some (.ref (s0.heap.size + (0 : Int).toNat)), some (.ref (s0.heap.size + (148 : Int).toNat)), none] []
  unfold wp_L_publish at h
  refine jv_aload_n C dL_publish_0 rfl ?_
  refine jv_const C dL_publish_1 ?_
  refine jv_aload_n C dL_publish_2 rfl ?_
  refine jv_callVXi C (M_X8_publish hT h) kw_L_54 sS_0 rfl rfl ⟨rfl, rfl⟩ (st := [jv_i 0, .ref (s0.heap.size + (148 : Int).toNat)]) rfl rfl ⟨rfl, rfl⟩ dL_publish_3 (fun r_3 g_3 h => ?_) (fun E gx h => ?_)
  rotate_left 1
  · obtain ⟨rfl, h⟩ := h
    refine jv_catch1 C htab ⟨rfl, rfl⟩ (by decide) kx_L_15 kz_IllegalStateException (fun q => ?_)
    refine jv_astore_n (ls' := [some (.ref (s0.heap.size + (0 : Int).toNat)), some (.ref (s0.heap.size + (148 : Int).toNat)), some (.ref q)]) C dL_publish_11 (Nat.lt_of_lt_of_eq (Nat.le_of_ble_eq_true rfl) hml) rfl ?_
    refine jv_const C dL_publish_12 ?_
    exact jv_xret (jv_iret C hr hlk ⟨_, rfl, h⟩ dL_publish_13 ⟨rfl, rfl⟩)
  obtain ⟨hr_6, h⟩ := h
  refine jv_i2l C hr_6 dL_publish_6 ?_
  obtain ⟨hb_7, h⟩ := h
  refine jv_last C sS_148 rfl hb_7 dL_publish_7 (jv_gm (fun g_7 eg_7 => ?_))
  replace h := h g_7 eg_7
  refine jv_goto (tgt := 14) C dL_publish_8 rfl ?_
  refine jv_const C dL_publish_14 ?_
  exact jv_xret (jv_iret C hr hlk ⟨_, rfl, h⟩ dL_publish_15 ⟨rfl, rfl⟩)

def wp_L_clueOf (a1 : Int) (a2 : Int) (Q : Int → jv_Mem → Prop) (g : jv_Mem) : Prop :=
  (wp_X8_clueOf a1 a2 (fun (r_5 : Int) (g_5 : jv_Mem) => (jv_r r_5 ∧ (((0 : Int) ≤ 0 ∧ 0 < (1 : Int)) ∧ (∀ g_9 : jv_Mem, g_9 = jv_up g_5 148 0 r_5 → Q 0 g_9)))) (fun (E : String) (gx : jv_Mem) => (E = "java/lang/IndexOutOfBoundsException" ∧ Q 1 gx)) g)
set_option maxHeartbeats 4000000 in
set_option maxRecDepth 100000 in
theorem M_L_clueOf {l : Launch} {s0 : State} {b0 : Addr} {D : va_G} {ids : Nat → ClassId} {g : jv_Mem} {a1 : Int} {a2 : Int} {Q : Int → jv_Mem → Prop} (hT : jv_T l s0 b0) (h : wp_L_clueOf a1 a2 Q g) : jv_MW l s0 b0 D ids yL_clueOf cL_clueOf 5 (some .int) [(0, 10, 13, 13)] 8 138 2 12 jv_SH g [.ref (s0.heap.size + (0 : Int).toNat), jv_i a1, jv_i a2, .ref (s0.heap.size + (148 : Int).toNat)] (jv_qi Q) := by
  refine jv_MW.of (by decide +kernel) rfl rfl (fun p e s m args below meth c C hml hr hlk htab => ?_)
  replace C : jv_C p s m args c cL_clueOf RL s0 b0 D ids := C
  show jv_V p l e (jv_rm 8 138 2 12) s m args below meth c 0 0 (jv_ZX below s0 D ids jv_SH (jv_qi Q) (fun _ _ => False) args s 2 12) s0 D ids none jv_SH g 0 [some (.ref (s0.heap.size + (0 : Int).toNat)), some (jv_i a1), some (jv_i a2), some (.ref (s0.heap.size + (148 : Int).toNat)), none] []
  unfold wp_L_clueOf at h
  refine jv_aload_n C dL_clueOf_0 rfl ?_
  refine jv_const C dL_clueOf_1 ?_
  refine jv_aload_n C dL_clueOf_2 rfl ?_
  refine jv_iload_n C dL_clueOf_3 rfl ?_
  refine jv_iload_n C dL_clueOf_4 rfl ?_
  refine jv_callVXi C (M_X8_clueOf hT h) kw_L_58 sS_0 rfl rfl ⟨rfl, rfl⟩ (st := [jv_i 0, .ref (s0.heap.size + (148 : Int).toNat)]) rfl rfl ⟨rfl, rfl⟩ dL_clueOf_5 (fun r_5 g_5 h => ?_) (fun E gx h => ?_)
  rotate_left 1
  · obtain ⟨rfl, h⟩ := h
    refine jv_catch1 C htab ⟨rfl, rfl⟩ (by decide) kx_L_13 kz_IndexOutOfBoundsException (fun q => ?_)
    refine jv_astore (ls' := [some (.ref (s0.heap.size + (0 : Int).toNat)), some (jv_i a1), some (jv_i a2), some (.ref (s0.heap.size + (148 : Int).toNat)), some (.ref q)]) C dL_clueOf_13 (Nat.lt_of_lt_of_eq (Nat.le_of_ble_eq_true rfl) hml) rfl ?_
    refine jv_const C dL_clueOf_15 ?_
    exact jv_xret (jv_iret C hr hlk ⟨_, rfl, h⟩ dL_clueOf_16 ⟨rfl, rfl⟩)
  obtain ⟨hr_8, h⟩ := h
  refine jv_i2l C hr_8 dL_clueOf_8 ?_
  obtain ⟨hb_9, h⟩ := h
  refine jv_last C sS_148 rfl hb_9 dL_clueOf_9 (jv_gm (fun g_9 eg_9 => ?_))
  replace h := h g_9 eg_9
  refine jv_goto (tgt := 17) C dL_clueOf_10 rfl ?_
  refine jv_const C dL_clueOf_17 ?_
  exact jv_xret (jv_iret C hr hlk ⟨_, rfl, h⟩ dL_clueOf_18 ⟨rfl, rfl⟩)

def wp_L_addSolver (a1 : Int) (a2 : Int) (Q : Int → jv_Mem → Prop) (g : jv_Mem) : Prop :=
  (wp_X8_addSolver a1 a2 (fun (r_5 : Int) (g_5 : jv_Mem) => (jv_r r_5 ∧ (((0 : Int) ≤ 0 ∧ 0 < (1 : Int)) ∧ (∀ g_9 : jv_Mem, g_9 = jv_up g_5 148 0 r_5 → Q 0 g_9)))) (fun (E : String) (gx : jv_Mem) => (E = "java/lang/IllegalArgumentException" ∧ Q 1 gx) ∨ (E = "java/lang/IllegalStateException" ∧ Q 2 gx)) g)
set_option maxHeartbeats 4000000 in
set_option maxRecDepth 100000 in
theorem M_L_addSolver {l : Launch} {s0 : State} {b0 : Addr} {D : va_G} {ids : Nat → ClassId} {g : jv_Mem} {a1 : Int} {a2 : Int} {Q : Int → jv_Mem → Prop} (hT : jv_T l s0 b0) (h : wp_L_addSolver a1 a2 Q g) : jv_MW l s0 b0 D ids yL_addSolver cL_addSolver 5 (some .int) [(0, 10, 13, 29), (0, 10, 17, 15)] 8 139 3 18 jv_SH g [.ref (s0.heap.size + (0 : Int).toNat), jv_i a1, jv_i a2, .ref (s0.heap.size + (148 : Int).toNat)] (jv_qi Q) := by
  refine jv_MW.of (by decide +kernel) rfl rfl (fun p e s m args below meth c C hml hr hlk htab => ?_)
  replace C : jv_C p s m args c cL_addSolver RL s0 b0 D ids := C
  show jv_V p l e (jv_rm 8 139 3 18) s m args below meth c 0 0 (jv_ZX below s0 D ids jv_SH (jv_qi Q) (fun _ _ => False) args s 3 18) s0 D ids none jv_SH g 0 [some (.ref (s0.heap.size + (0 : Int).toNat)), some (jv_i a1), some (jv_i a2), some (.ref (s0.heap.size + (148 : Int).toNat)), none] []
  unfold wp_L_addSolver at h
  refine jv_aload_n C dL_addSolver_0 rfl ?_
  refine jv_const C dL_addSolver_1 ?_
  refine jv_aload_n C dL_addSolver_2 rfl ?_
  refine jv_iload_n C dL_addSolver_3 rfl ?_
  refine jv_iload_n C dL_addSolver_4 rfl ?_
  refine jv_callVXi C (M_X8_addSolver hT h) kw_L_61 sS_0 rfl rfl ⟨rfl, rfl⟩ (st := [jv_i 0, .ref (s0.heap.size + (148 : Int).toNat)]) rfl rfl ⟨rfl, rfl⟩ dL_addSolver_5 (fun r_5 g_5 h => ?_) (fun E gx h => ?_)
  rotate_left 1
  · rcases h with ⟨rfl, h⟩ | ⟨rfl, h⟩
    · refine jv_catch1 C htab ⟨rfl, rfl⟩ (by decide) kx_L_29 kz_IllegalArgumentException (fun q => ?_)
      refine jv_astore (ls' := [some (.ref (s0.heap.size + (0 : Int).toNat)), some (jv_i a1), some (jv_i a2), some (.ref (s0.heap.size + (148 : Int).toNat)), some (.ref q)]) C dL_addSolver_13 (Nat.lt_of_lt_of_eq (Nat.le_of_ble_eq_true rfl) hml) rfl ?_
      refine jv_const C dL_addSolver_15 ?_
      exact jv_xret (jv_iret C hr hlk ⟨_, rfl, h⟩ dL_addSolver_16 ⟨rfl, rfl⟩)
    · refine jv_catch2 C hT htab ⟨rfl, rfl⟩ ⟨by decide, by decide⟩ kx_L_29 kx_L_15 kz_IllegalStateException (by decide +kernel) (fun q => ?_)
      refine jv_astore (ls' := [some (.ref (s0.heap.size + (0 : Int).toNat)), some (jv_i a1), some (jv_i a2), some (.ref (s0.heap.size + (148 : Int).toNat)), some (.ref q)]) C dL_addSolver_17 (Nat.lt_of_lt_of_eq (Nat.le_of_ble_eq_true rfl) hml) rfl ?_
      refine jv_const C dL_addSolver_19 ?_
      exact jv_xret (jv_iret C hr hlk ⟨_, rfl, h⟩ dL_addSolver_20 ⟨rfl, rfl⟩)
  obtain ⟨hr_8, h⟩ := h
  refine jv_i2l C hr_8 dL_addSolver_8 ?_
  obtain ⟨hb_9, h⟩ := h
  refine jv_last C sS_148 rfl hb_9 dL_addSolver_9 (jv_gm (fun g_9 eg_9 => ?_))
  replace h := h g_9 eg_9
  refine jv_goto (tgt := 21) C dL_addSolver_10 rfl ?_
  refine jv_const C dL_addSolver_21 ?_
  exact jv_xret (jv_iret C hr hlk ⟨_, rfl, h⟩ dL_addSolver_22 ⟨rfl, rfl⟩)

def wp_L_enter (a1 : Int) (a2 : Int) (a3 : Int) (a4 : Int) (Q : Int → jv_Mem → Prop) (g : jv_Mem) : Prop :=
  (wp_X8_enter a1 a2 a3 a4 (fun (r_9 : Int) (g_9 : jv_Mem) => ((jv_r r_9) ∧ (r_9 = 0 → (((0 : Int) ≤ 0 ∧ 0 < (1 : Int)) ∧ (∀ g_20 : jv_Mem, g_20 = jv_up g_9 148 0 0 → Q 0 g_20))) ∧ (¬ r_9 = 0 → (((0 : Int) ≤ 0 ∧ 0 < (1 : Int)) ∧ (∀ g_20 : jv_Mem, g_20 = jv_up g_9 148 0 1 → Q 0 g_20))))) (fun (E : String) (gx : jv_Mem) => (E = "java/lang/IndexOutOfBoundsException" ∧ Q 1 gx) ∨ (E = "java/lang/IllegalStateException" ∧ Q 2 gx)) g)
set_option maxHeartbeats 4000000 in
set_option maxRecDepth 100000 in
theorem M_L_enter {l : Launch} {s0 : State} {b0 : Addr} {D : va_G} {ids : Nat → ClassId} {g : jv_Mem} {a1 : Int} {a2 : Int} {a3 : Int} {a4 : Int} {Q : Int → jv_Mem → Prop} (hT : jv_T l s0 b0) (h : wp_L_enter a1 a2 a3 a4 Q g) : jv_MW l s0 b0 D ids yL_enter cL_enter 7 (some .int) [(0, 21, 24, 13), (0, 21, 28, 15)] 9 164 5 30 jv_SH g [.ref (s0.heap.size + (0 : Int).toNat), jv_i a1, jv_i a2, jv_i a3, jv_i a4, .ref (s0.heap.size + (148 : Int).toNat)] (jv_qi Q) := by
  refine jv_MW.of (by decide +kernel) rfl rfl (fun p e s m args below meth c C hml hr hlk htab => ?_)
  replace C : jv_C p s m args c cL_enter RL s0 b0 D ids := C
  show jv_V p l e (jv_rm 9 164 5 30) s m args below meth c 0 0 (jv_ZX below s0 D ids jv_SH (jv_qi Q) (fun _ _ => False) args s 5 30) s0 D ids none jv_SH g 0 [some (.ref (s0.heap.size + (0 : Int).toNat)), some (jv_i a1), some (jv_i a2), some (jv_i a3), some (jv_i a4), some (.ref (s0.heap.size + (148 : Int).toNat)), none] []
  unfold wp_L_enter at h
  refine jv_aload C dL_enter_0 rfl ?_
  refine jv_const C dL_enter_2 ?_
  refine jv_aload_n C dL_enter_3 rfl ?_
  refine jv_iload_n C dL_enter_4 rfl ?_
  refine jv_iload_n C dL_enter_5 rfl ?_
  refine jv_iload_n C dL_enter_6 rfl ?_
  refine jv_iload C dL_enter_7 rfl ?_
  refine jv_callVXi C (M_X8_enter hT h) kw_L_64 sS_0 rfl rfl ⟨rfl, rfl⟩ (st := [jv_i 0, .ref (s0.heap.size + (148 : Int).toNat)]) rfl rfl ⟨rfl, rfl⟩ dL_enter_9 (fun r_9 g_9 h => ?_) (fun E gx h => ?_)
  rotate_left 1
  · rcases h with ⟨rfl, h⟩ | ⟨rfl, h⟩
    · refine jv_catch1 C htab ⟨rfl, rfl⟩ (by decide) kx_L_13 kz_IndexOutOfBoundsException (fun q => ?_)
      refine jv_astore (ls' := [some (.ref (s0.heap.size + (0 : Int).toNat)), some (jv_i a1), some (jv_i a2), some (jv_i a3), some (jv_i a4), some (.ref (s0.heap.size + (148 : Int).toNat)), some (.ref q)]) C dL_enter_24 (Nat.lt_of_lt_of_eq (Nat.le_of_ble_eq_true rfl) hml) rfl ?_
      refine jv_const C dL_enter_26 ?_
      exact jv_xret (jv_iret C hr hlk ⟨_, rfl, h⟩ dL_enter_27 ⟨rfl, rfl⟩)
    · refine jv_catch2 C hT htab ⟨rfl, rfl⟩ ⟨by decide, by decide⟩ kx_L_13 kx_L_15 kz_IllegalStateException (by decide +kernel) (fun q => ?_)
      refine jv_astore (ls' := [some (.ref (s0.heap.size + (0 : Int).toNat)), some (jv_i a1), some (jv_i a2), some (jv_i a3), some (jv_i a4), some (.ref (s0.heap.size + (148 : Int).toNat)), some (.ref q)]) C dL_enter_28 (Nat.lt_of_lt_of_eq (Nat.le_of_ble_eq_true rfl) hml) rfl ?_
      refine jv_const C dL_enter_30 ?_
      exact jv_xret (jv_iret C hr hlk ⟨_, rfl, h⟩ dL_enter_31 ⟨rfl, rfl⟩)
  obtain ⟨hr_12, h1_12, h2_12⟩ := h
  refine jv_if_eq (tgt := 19) C hr_12 dL_enter_12 rfl (fun hc_12 => ?_) (fun hc_12 => ?_)
  · replace h := h1_12 hc_12
    refine jv_lconstK (k := 0) C dL_enter_19 rfl ?_
    obtain ⟨hb_20, h⟩ := h
    refine jv_last C sS_148 rfl hb_20 dL_enter_20 (jv_gm (fun g_20 eg_20 => ?_))
    replace h := h g_20 eg_20
    refine jv_goto (tgt := 32) C dL_enter_21 rfl ?_
    refine jv_const C dL_enter_32 ?_
    exact jv_xret (jv_iret C hr hlk ⟨_, rfl, h⟩ dL_enter_33 ⟨rfl, rfl⟩)
  · replace h := h2_12 hc_12
    refine jv_lconstK (k := 1) C dL_enter_15 rfl ?_
    refine jv_goto (tgt := 20) C dL_enter_16 rfl ?_
    obtain ⟨hb_20, h⟩ := h
    refine jv_last C sS_148 rfl hb_20 dL_enter_20 (jv_gm (fun g_20 eg_20 => ?_))
    replace h := h g_20 eg_20
    refine jv_goto (tgt := 32) C dL_enter_21 rfl ?_
    refine jv_const C dL_enter_32 ?_
    exact jv_xret (jv_iret C hr hlk ⟨_, rfl, h⟩ dL_enter_33 ⟨rfl, rfl⟩)

def wp_L_help (a1 : Int) (a2 : Int) (a3 : Int) (Q : Int → jv_Mem → Prop) (g : jv_Mem) : Prop :=
  (wp_X8_help a1 a2 a3 (fun (r_7 : Int) (g_7 : jv_Mem) => (jv_r r_7 ∧ (((0 : Int) ≤ 0 ∧ 0 < (1 : Int)) ∧ (∀ g_11 : jv_Mem, g_11 = jv_up g_7 148 0 r_7 → Q 0 g_11)))) (fun (E : String) (gx : jv_Mem) => (E = "java/lang/IndexOutOfBoundsException" ∧ Q 1 gx) ∨ (E = "java/lang/IllegalStateException" ∧ Q 2 gx)) g)
set_option maxHeartbeats 4000000 in
set_option maxRecDepth 100000 in
theorem M_L_help {l : Launch} {s0 : State} {b0 : Addr} {D : va_G} {ids : Nat → ClassId} {g : jv_Mem} {a1 : Int} {a2 : Int} {a3 : Int} {Q : Int → jv_Mem → Prop} (hT : jv_T l s0 b0) (h : wp_L_help a1 a2 a3 Q g) : jv_MW l s0 b0 D ids yL_help cL_help 6 (some .int) [(0, 12, 15, 13), (0, 12, 19, 15)] 9 162 5 30 jv_SH g [.ref (s0.heap.size + (0 : Int).toNat), jv_i a1, jv_i a2, jv_i a3, .ref (s0.heap.size + (148 : Int).toNat)] (jv_qi Q) := by
  refine jv_MW.of (by decide +kernel) rfl rfl (fun p e s m args below meth c C hml hr hlk htab => ?_)
  replace C : jv_C p s m args c cL_help RL s0 b0 D ids := C
  show jv_V p l e (jv_rm 9 162 5 30) s m args below meth c 0 0 (jv_ZX below s0 D ids jv_SH (jv_qi Q) (fun _ _ => False) args s 5 30) s0 D ids none jv_SH g 0 [some (.ref (s0.heap.size + (0 : Int).toNat)), some (jv_i a1), some (jv_i a2), some (jv_i a3), some (.ref (s0.heap.size + (148 : Int).toNat)), none] []
  unfold wp_L_help at h
  refine jv_aload C dL_help_0 rfl ?_
  refine jv_const C dL_help_2 ?_
  refine jv_aload_n C dL_help_3 rfl ?_
  refine jv_iload_n C dL_help_4 rfl ?_
  refine jv_iload_n C dL_help_5 rfl ?_
  refine jv_iload_n C dL_help_6 rfl ?_
  refine jv_callVXi C (M_X8_help hT h) kw_L_68 sS_0 rfl rfl ⟨rfl, rfl⟩ (st := [jv_i 0, .ref (s0.heap.size + (148 : Int).toNat)]) rfl rfl ⟨rfl, rfl⟩ dL_help_7 (fun r_7 g_7 h => ?_) (fun E gx h => ?_)
  rotate_left 1
  · rcases h with ⟨rfl, h⟩ | ⟨rfl, h⟩
    · refine jv_catch1 C htab ⟨rfl, rfl⟩ (by decide) kx_L_13 kz_IndexOutOfBoundsException (fun q => ?_)
      refine jv_astore (ls' := [some (.ref (s0.heap.size + (0 : Int).toNat)), some (jv_i a1), some (jv_i a2), some (jv_i a3), some (.ref (s0.heap.size + (148 : Int).toNat)), some (.ref q)]) C dL_help_15 (Nat.lt_of_lt_of_eq (Nat.le_of_ble_eq_true rfl) hml) rfl ?_
      refine jv_const C dL_help_17 ?_
      exact jv_xret (jv_iret C hr hlk ⟨_, rfl, h⟩ dL_help_18 ⟨rfl, rfl⟩)
    · refine jv_catch2 C hT htab ⟨rfl, rfl⟩ ⟨by decide, by decide⟩ kx_L_13 kx_L_15 kz_IllegalStateException (by decide +kernel) (fun q => ?_)
      refine jv_astore (ls' := [some (.ref (s0.heap.size + (0 : Int).toNat)), some (jv_i a1), some (jv_i a2), some (jv_i a3), some (.ref (s0.heap.size + (148 : Int).toNat)), some (.ref q)]) C dL_help_19 (Nat.lt_of_lt_of_eq (Nat.le_of_ble_eq_true rfl) hml) rfl ?_
      refine jv_const C dL_help_21 ?_
      exact jv_xret (jv_iret C hr hlk ⟨_, rfl, h⟩ dL_help_22 ⟨rfl, rfl⟩)
  obtain ⟨hr_10, h⟩ := h
  refine jv_i2l C hr_10 dL_help_10 ?_
  obtain ⟨hb_11, h⟩ := h
  refine jv_last C sS_148 rfl hb_11 dL_help_11 (jv_gm (fun g_11 eg_11 => ?_))
  replace h := h g_11 eg_11
  refine jv_goto (tgt := 23) C dL_help_12 rfl ?_
  refine jv_const C dL_help_23 ?_
  exact jv_xret (jv_iret C hr hlk ⟨_, rfl, h⟩ dL_help_24 ⟨rfl, rfl⟩)

def wp_L_judge (a1 : Int) (a2 : Int) (Q : Int → jv_Mem → Prop) (g : jv_Mem) : Prop :=
  (wp_X8_judge a1 a2 (fun (r_5 : Int) (g_5 : jv_Mem) => (jv_r r_5 ∧ (((0 : Int) ≤ 0 ∧ 0 < (1 : Int)) ∧ (∀ g_9 : jv_Mem, g_9 = jv_up g_5 148 0 r_5 → Q 0 g_9)))) (fun (E : String) (gx : jv_Mem) => (E = "java/lang/IndexOutOfBoundsException" ∧ Q 1 gx) ∨ (E = "java/lang/IllegalStateException" ∧ Q 2 gx)) g)
set_option maxHeartbeats 4000000 in
set_option maxRecDepth 100000 in
theorem M_L_judge {l : Launch} {s0 : State} {b0 : Addr} {D : va_G} {ids : Nat → ClassId} {g : jv_Mem} {a1 : Int} {a2 : Int} {Q : Int → jv_Mem → Prop} (hT : jv_T l s0 b0) (h : wp_L_judge a1 a2 Q g) : jv_MW l s0 b0 D ids yL_judge cL_judge 5 (some .int) [(0, 10, 13, 13), (0, 10, 17, 15)] 8 142 3 18 jv_SH g [.ref (s0.heap.size + (0 : Int).toNat), jv_i a1, jv_i a2, .ref (s0.heap.size + (148 : Int).toNat)] (jv_qi Q) := by
  refine jv_MW.of (by decide +kernel) rfl rfl (fun p e s m args below meth c C hml hr hlk htab => ?_)
  replace C : jv_C p s m args c cL_judge RL s0 b0 D ids := C
  show jv_V p l e (jv_rm 8 142 3 18) s m args below meth c 0 0 (jv_ZX below s0 D ids jv_SH (jv_qi Q) (fun _ _ => False) args s 3 18) s0 D ids none jv_SH g 0 [some (.ref (s0.heap.size + (0 : Int).toNat)), some (jv_i a1), some (jv_i a2), some (.ref (s0.heap.size + (148 : Int).toNat)), none] []
  unfold wp_L_judge at h
  refine jv_aload_n C dL_judge_0 rfl ?_
  refine jv_const C dL_judge_1 ?_
  refine jv_aload_n C dL_judge_2 rfl ?_
  refine jv_iload_n C dL_judge_3 rfl ?_
  refine jv_iload_n C dL_judge_4 rfl ?_
  refine jv_callVXi C (M_X8_judge hT h) kw_L_72 sS_0 rfl rfl ⟨rfl, rfl⟩ (st := [jv_i 0, .ref (s0.heap.size + (148 : Int).toNat)]) rfl rfl ⟨rfl, rfl⟩ dL_judge_5 (fun r_5 g_5 h => ?_) (fun E gx h => ?_)
  rotate_left 1
  · rcases h with ⟨rfl, h⟩ | ⟨rfl, h⟩
    · refine jv_catch1 C htab ⟨rfl, rfl⟩ (by decide) kx_L_13 kz_IndexOutOfBoundsException (fun q => ?_)
      refine jv_astore (ls' := [some (.ref (s0.heap.size + (0 : Int).toNat)), some (jv_i a1), some (jv_i a2), some (.ref (s0.heap.size + (148 : Int).toNat)), some (.ref q)]) C dL_judge_13 (Nat.lt_of_lt_of_eq (Nat.le_of_ble_eq_true rfl) hml) rfl ?_
      refine jv_const C dL_judge_15 ?_
      exact jv_xret (jv_iret C hr hlk ⟨_, rfl, h⟩ dL_judge_16 ⟨rfl, rfl⟩)
    · refine jv_catch2 C hT htab ⟨rfl, rfl⟩ ⟨by decide, by decide⟩ kx_L_13 kx_L_15 kz_IllegalStateException (by decide +kernel) (fun q => ?_)
      refine jv_astore (ls' := [some (.ref (s0.heap.size + (0 : Int).toNat)), some (jv_i a1), some (jv_i a2), some (.ref (s0.heap.size + (148 : Int).toNat)), some (.ref q)]) C dL_judge_17 (Nat.lt_of_lt_of_eq (Nat.le_of_ble_eq_true rfl) hml) rfl ?_
      refine jv_const C dL_judge_19 ?_
      exact jv_xret (jv_iret C hr hlk ⟨_, rfl, h⟩ dL_judge_20 ⟨rfl, rfl⟩)
  obtain ⟨hr_8, h⟩ := h
  refine jv_i2l C hr_8 dL_judge_8 ?_
  obtain ⟨hb_9, h⟩ := h
  refine jv_last C sS_148 rfl hb_9 dL_judge_9 (jv_gm (fun g_9 eg_9 => ?_))
  replace h := h g_9 eg_9
  refine jv_goto (tgt := 21) C dL_judge_10 rfl ?_
  refine jv_const C dL_judge_21 ?_
  exact jv_xret (jv_iret C hr hlk ⟨_, rfl, h⟩ dL_judge_22 ⟨rfl, rfl⟩)

def wp_L_solvedAt (a1 : Int) (a2 : Int) (Q : Int → jv_Mem → Prop) (g : jv_Mem) : Prop :=
  (wp_X8_solvedAt a1 a2 (fun (r_5 : Int) (g_5 : jv_Mem) => (jv_r r_5 ∧ (((0 : Int) ≤ 0 ∧ 0 < (1 : Int)) ∧ (∀ g_9 : jv_Mem, g_9 = jv_up g_5 148 0 r_5 → Q 0 g_9)))) (fun (E : String) (gx : jv_Mem) => (E = "java/lang/IndexOutOfBoundsException" ∧ Q 1 gx)) g)
set_option maxHeartbeats 4000000 in
set_option maxRecDepth 100000 in
theorem M_L_solvedAt {l : Launch} {s0 : State} {b0 : Addr} {D : va_G} {ids : Nat → ClassId} {g : jv_Mem} {a1 : Int} {a2 : Int} {Q : Int → jv_Mem → Prop} (hT : jv_T l s0 b0) (h : wp_L_solvedAt a1 a2 Q g) : jv_MW l s0 b0 D ids yL_solvedAt cL_solvedAt 5 (some .int) [(0, 10, 13, 13)] 8 139 2 12 jv_SH g [.ref (s0.heap.size + (0 : Int).toNat), jv_i a1, jv_i a2, .ref (s0.heap.size + (148 : Int).toNat)] (jv_qi Q) := by
  refine jv_MW.of (by decide +kernel) rfl rfl (fun p e s m args below meth c C hml hr hlk htab => ?_)
  replace C : jv_C p s m args c cL_solvedAt RL s0 b0 D ids := C
  show jv_V p l e (jv_rm 8 139 2 12) s m args below meth c 0 0 (jv_ZX below s0 D ids jv_SH (jv_qi Q) (fun _ _ => False) args s 2 12) s0 D ids none jv_SH g 0 [some (.ref (s0.heap.size + (0 : Int).toNat)), some (jv_i a1), some (jv_i a2), some (.ref (s0.heap.size + (148 : Int).toNat)), none] []
  unfold wp_L_solvedAt at h
  refine jv_aload_n C dL_solvedAt_0 rfl ?_
  refine jv_const C dL_solvedAt_1 ?_
  refine jv_aload_n C dL_solvedAt_2 rfl ?_
  refine jv_iload_n C dL_solvedAt_3 rfl ?_
  refine jv_iload_n C dL_solvedAt_4 rfl ?_
  refine jv_callVXi C (M_X8_solvedAt hT h) kw_L_75 sS_0 rfl rfl ⟨rfl, rfl⟩ (st := [jv_i 0, .ref (s0.heap.size + (148 : Int).toNat)]) rfl rfl ⟨rfl, rfl⟩ dL_solvedAt_5 (fun r_5 g_5 h => ?_) (fun E gx h => ?_)
  rotate_left 1
  · obtain ⟨rfl, h⟩ := h
    refine jv_catch1 C htab ⟨rfl, rfl⟩ (by decide) kx_L_13 kz_IndexOutOfBoundsException (fun q => ?_)
    refine jv_astore (ls' := [some (.ref (s0.heap.size + (0 : Int).toNat)), some (jv_i a1), some (jv_i a2), some (.ref (s0.heap.size + (148 : Int).toNat)), some (.ref q)]) C dL_solvedAt_13 (Nat.lt_of_lt_of_eq (Nat.le_of_ble_eq_true rfl) hml) rfl ?_
    refine jv_const C dL_solvedAt_15 ?_
    exact jv_xret (jv_iret C hr hlk ⟨_, rfl, h⟩ dL_solvedAt_16 ⟨rfl, rfl⟩)
  obtain ⟨hr_8, h⟩ := h
  refine jv_i2l C hr_8 dL_solvedAt_8 ?_
  obtain ⟨hb_9, h⟩ := h
  refine jv_last C sS_148 rfl hb_9 dL_solvedAt_9 (jv_gm (fun g_9 eg_9 => ?_))
  replace h := h g_9 eg_9
  refine jv_goto (tgt := 17) C dL_solvedAt_10 rfl ?_
  refine jv_const C dL_solvedAt_17 ?_
  exact jv_xret (jv_iret C hr hlk ⟨_, rfl, h⟩ dL_solvedAt_18 ⟨rfl, rfl⟩)

def wp_L_open (a1 : Int) (Q : Int → jv_Mem → Prop) (g : jv_Mem) : Prop :=
  (wp_X8_open a1 (fun (r_4 : Int) (g_4 : jv_Mem) => (jv_r r_4 ∧ (((0 : Int) ≤ 0 ∧ 0 < (1 : Int)) ∧ (∀ g_8 : jv_Mem, g_8 = jv_up g_4 148 0 r_4 → Q 0 g_8)))) (fun (E : String) (gx : jv_Mem) => (E = "java/lang/IndexOutOfBoundsException" ∧ Q 1 gx)) g)
set_option maxHeartbeats 4000000 in
set_option maxRecDepth 100000 in
theorem M_L_open {l : Launch} {s0 : State} {b0 : Addr} {D : va_G} {ids : Nat → ClassId} {g : jv_Mem} {a1 : Int} {Q : Int → jv_Mem → Prop} (hT : jv_T l s0 b0) (h : wp_L_open a1 Q g) : jv_MW l s0 b0 D ids yL_open cL_open 4 (some .int) [(0, 9, 12, 13)] 8 137 1 6 jv_SH g [.ref (s0.heap.size + (0 : Int).toNat), jv_i a1, .ref (s0.heap.size + (148 : Int).toNat)] (jv_qi Q) := by
  refine jv_MW.of (by decide +kernel) rfl rfl (fun p e s m args below meth c C hml hr hlk htab => ?_)
  replace C : jv_C p s m args c cL_open RL s0 b0 D ids := C
  show jv_V p l e (jv_rm 8 137 1 6) s m args below meth c 0 0 (jv_ZX below s0 D ids jv_SH (jv_qi Q) (fun _ _ => False) args s 1 6) s0 D ids none jv_SH g 0 [some (.ref (s0.heap.size + (0 : Int).toNat)), some (jv_i a1), some (.ref (s0.heap.size + (148 : Int).toNat)), none] []
  unfold wp_L_open at h
  refine jv_aload_n C dL_open_0 rfl ?_
  refine jv_const C dL_open_1 ?_
  refine jv_aload_n C dL_open_2 rfl ?_
  refine jv_iload_n C dL_open_3 rfl ?_
  refine jv_callVXi C (M_X8_open hT h) kw_L_78 sS_0 rfl rfl ⟨rfl, rfl⟩ (st := [jv_i 0, .ref (s0.heap.size + (148 : Int).toNat)]) rfl rfl ⟨rfl, rfl⟩ dL_open_4 (fun r_4 g_4 h => ?_) (fun E gx h => ?_)
  rotate_left 1
  · obtain ⟨rfl, h⟩ := h
    refine jv_catch1 C htab ⟨rfl, rfl⟩ (by decide) kx_L_13 kz_IndexOutOfBoundsException (fun q => ?_)
    refine jv_astore_n (ls' := [some (.ref (s0.heap.size + (0 : Int).toNat)), some (jv_i a1), some (.ref (s0.heap.size + (148 : Int).toNat)), some (.ref q)]) C dL_open_12 (Nat.lt_of_lt_of_eq (Nat.le_of_ble_eq_true rfl) hml) rfl ?_
    refine jv_const C dL_open_13 ?_
    exact jv_xret (jv_iret C hr hlk ⟨_, rfl, h⟩ dL_open_14 ⟨rfl, rfl⟩)
  obtain ⟨hr_7, h⟩ := h
  refine jv_i2l C hr_7 dL_open_7 ?_
  obtain ⟨hb_8, h⟩ := h
  refine jv_last C sS_148 rfl hb_8 dL_open_8 (jv_gm (fun g_8 eg_8 => ?_))
  replace h := h g_8 eg_8
  refine jv_goto (tgt := 15) C dL_open_9 rfl ?_
  refine jv_const C dL_open_15 ?_
  exact jv_xret (jv_iret C hr hlk ⟨_, rfl, h⟩ dL_open_16 ⟨rfl, rfl⟩)

def wp_L_coins (a1 : Int) (Q : Int → jv_Mem → Prop) (g : jv_Mem) : Prop :=
  (wp_X8_coins a1 (fun (r_4 : Int) (g_4 : jv_Mem) => (jv_r r_4 ∧ (((0 : Int) ≤ 0 ∧ 0 < (1 : Int)) ∧ (∀ g_8 : jv_Mem, g_8 = jv_up g_4 148 0 r_4 → Q 0 g_8)))) (fun (E : String) (gx : jv_Mem) => (E = "java/lang/IndexOutOfBoundsException" ∧ Q 1 gx)) g)
set_option maxHeartbeats 4000000 in
set_option maxRecDepth 100000 in
theorem M_L_coins {l : Launch} {s0 : State} {b0 : Addr} {D : va_G} {ids : Nat → ClassId} {g : jv_Mem} {a1 : Int} {Q : Int → jv_Mem → Prop} (hT : jv_T l s0 b0) (h : wp_L_coins a1 Q g) : jv_MW l s0 b0 D ids yL_coins cL_coins 4 (some .int) [(0, 9, 12, 13)] 8 137 1 6 jv_SH g [.ref (s0.heap.size + (0 : Int).toNat), jv_i a1, .ref (s0.heap.size + (148 : Int).toNat)] (jv_qi Q) := by
  refine jv_MW.of (by decide +kernel) rfl rfl (fun p e s m args below meth c C hml hr hlk htab => ?_)
  replace C : jv_C p s m args c cL_coins RL s0 b0 D ids := C
  show jv_V p l e (jv_rm 8 137 1 6) s m args below meth c 0 0 (jv_ZX below s0 D ids jv_SH (jv_qi Q) (fun _ _ => False) args s 1 6) s0 D ids none jv_SH g 0 [some (.ref (s0.heap.size + (0 : Int).toNat)), some (jv_i a1), some (.ref (s0.heap.size + (148 : Int).toNat)), none] []
  unfold wp_L_coins at h
  refine jv_aload_n C dL_coins_0 rfl ?_
  refine jv_const C dL_coins_1 ?_
  refine jv_aload_n C dL_coins_2 rfl ?_
  refine jv_iload_n C dL_coins_3 rfl ?_
  refine jv_callVXi C (M_X8_coins hT h) kw_L_81 sS_0 rfl rfl ⟨rfl, rfl⟩ (st := [jv_i 0, .ref (s0.heap.size + (148 : Int).toNat)]) rfl rfl ⟨rfl, rfl⟩ dL_coins_4 (fun r_4 g_4 h => ?_) (fun E gx h => ?_)
  rotate_left 1
  · obtain ⟨rfl, h⟩ := h
    refine jv_catch1 C htab ⟨rfl, rfl⟩ (by decide) kx_L_13 kz_IndexOutOfBoundsException (fun q => ?_)
    refine jv_astore_n (ls' := [some (.ref (s0.heap.size + (0 : Int).toNat)), some (jv_i a1), some (.ref (s0.heap.size + (148 : Int).toNat)), some (.ref q)]) C dL_coins_12 (Nat.lt_of_lt_of_eq (Nat.le_of_ble_eq_true rfl) hml) rfl ?_
    refine jv_const C dL_coins_13 ?_
    exact jv_xret (jv_iret C hr hlk ⟨_, rfl, h⟩ dL_coins_14 ⟨rfl, rfl⟩)
  obtain ⟨hr_7, h⟩ := h
  refine jv_i2l C hr_7 dL_coins_7 ?_
  obtain ⟨hb_8, h⟩ := h
  refine jv_last C sS_148 rfl hb_8 dL_coins_8 (jv_gm (fun g_8 eg_8 => ?_))
  replace h := h g_8 eg_8
  refine jv_goto (tgt := 15) C dL_coins_9 rfl ?_
  refine jv_const C dL_coins_15 ?_
  exact jv_xret (jv_iret C hr hlk ⟨_, rfl, h⟩ dL_coins_16 ⟨rfl, rfl⟩)

def wp_L_streak (a1 : Int) (Q : Int → jv_Mem → Prop) (g : jv_Mem) : Prop :=
  (wp_X8_streak a1 (fun (r_4 : Int) (g_4 : jv_Mem) => (jv_r r_4 ∧ (((0 : Int) ≤ 0 ∧ 0 < (1 : Int)) ∧ (∀ g_8 : jv_Mem, g_8 = jv_up g_4 148 0 r_4 → Q 0 g_8)))) (fun (E : String) (gx : jv_Mem) => (E = "java/lang/IndexOutOfBoundsException" ∧ Q 1 gx)) g)
set_option maxHeartbeats 4000000 in
set_option maxRecDepth 100000 in
theorem M_L_streak {l : Launch} {s0 : State} {b0 : Addr} {D : va_G} {ids : Nat → ClassId} {g : jv_Mem} {a1 : Int} {Q : Int → jv_Mem → Prop} (hT : jv_T l s0 b0) (h : wp_L_streak a1 Q g) : jv_MW l s0 b0 D ids yL_streak cL_streak 4 (some .int) [(0, 9, 12, 13)] 8 137 1 6 jv_SH g [.ref (s0.heap.size + (0 : Int).toNat), jv_i a1, .ref (s0.heap.size + (148 : Int).toNat)] (jv_qi Q) := by
  refine jv_MW.of (by decide +kernel) rfl rfl (fun p e s m args below meth c C hml hr hlk htab => ?_)
  replace C : jv_C p s m args c cL_streak RL s0 b0 D ids := C
  show jv_V p l e (jv_rm 8 137 1 6) s m args below meth c 0 0 (jv_ZX below s0 D ids jv_SH (jv_qi Q) (fun _ _ => False) args s 1 6) s0 D ids none jv_SH g 0 [some (.ref (s0.heap.size + (0 : Int).toNat)), some (jv_i a1), some (.ref (s0.heap.size + (148 : Int).toNat)), none] []
  unfold wp_L_streak at h
  refine jv_aload_n C dL_streak_0 rfl ?_
  refine jv_const C dL_streak_1 ?_
  refine jv_aload_n C dL_streak_2 rfl ?_
  refine jv_iload_n C dL_streak_3 rfl ?_
  refine jv_callVXi C (M_X8_streak hT h) kw_L_84 sS_0 rfl rfl ⟨rfl, rfl⟩ (st := [jv_i 0, .ref (s0.heap.size + (148 : Int).toNat)]) rfl rfl ⟨rfl, rfl⟩ dL_streak_4 (fun r_4 g_4 h => ?_) (fun E gx h => ?_)
  rotate_left 1
  · obtain ⟨rfl, h⟩ := h
    refine jv_catch1 C htab ⟨rfl, rfl⟩ (by decide) kx_L_13 kz_IndexOutOfBoundsException (fun q => ?_)
    refine jv_astore_n (ls' := [some (.ref (s0.heap.size + (0 : Int).toNat)), some (jv_i a1), some (.ref (s0.heap.size + (148 : Int).toNat)), some (.ref q)]) C dL_streak_12 (Nat.lt_of_lt_of_eq (Nat.le_of_ble_eq_true rfl) hml) rfl ?_
    refine jv_const C dL_streak_13 ?_
    exact jv_xret (jv_iret C hr hlk ⟨_, rfl, h⟩ dL_streak_14 ⟨rfl, rfl⟩)
  obtain ⟨hr_7, h⟩ := h
  refine jv_i2l C hr_7 dL_streak_7 ?_
  obtain ⟨hb_8, h⟩ := h
  refine jv_last C sS_148 rfl hb_8 dL_streak_8 (jv_gm (fun g_8 eg_8 => ?_))
  replace h := h g_8 eg_8
  refine jv_goto (tgt := 15) C dL_streak_9 rfl ?_
  refine jv_const C dL_streak_15 ?_
  exact jv_xret (jv_iret C hr hlk ⟨_, rfl, h⟩ dL_streak_16 ⟨rfl, rfl⟩)

def wp_L_streakAnew (a1 : Int) (Q : Int → jv_Mem → Prop) (g : jv_Mem) : Prop :=
  (wp_X8_streakAnew a1 (fun (r_4 : Int) (g_4 : jv_Mem) => (jv_r r_4 ∧ (((0 : Int) ≤ 0 ∧ 0 < (1 : Int)) ∧ (∀ g_8 : jv_Mem, g_8 = jv_up g_4 148 0 r_4 → Q 0 g_8)))) (fun (E : String) (gx : jv_Mem) => (E = "java/lang/IndexOutOfBoundsException" ∧ Q 1 gx)) g)
set_option maxHeartbeats 4000000 in
set_option maxRecDepth 100000 in
theorem M_L_streakAnew {l : Launch} {s0 : State} {b0 : Addr} {D : va_G} {ids : Nat → ClassId} {g : jv_Mem} {a1 : Int} {Q : Int → jv_Mem → Prop} (hT : jv_T l s0 b0) (h : wp_L_streakAnew a1 Q g) : jv_MW l s0 b0 D ids yL_streakAnew cL_streakAnew 4 (some .int) [(0, 9, 12, 13)] 8 138 1 6 jv_SH g [.ref (s0.heap.size + (0 : Int).toNat), jv_i a1, .ref (s0.heap.size + (148 : Int).toNat)] (jv_qi Q) := by
  refine jv_MW.of (by decide +kernel) rfl rfl (fun p e s m args below meth c C hml hr hlk htab => ?_)
  replace C : jv_C p s m args c cL_streakAnew RL s0 b0 D ids := C
  show jv_V p l e (jv_rm 8 138 1 6) s m args below meth c 0 0 (jv_ZX below s0 D ids jv_SH (jv_qi Q) (fun _ _ => False) args s 1 6) s0 D ids none jv_SH g 0 [some (.ref (s0.heap.size + (0 : Int).toNat)), some (jv_i a1), some (.ref (s0.heap.size + (148 : Int).toNat)), none] []
  unfold wp_L_streakAnew at h
  refine jv_aload_n C dL_streakAnew_0 rfl ?_
  refine jv_const C dL_streakAnew_1 ?_
  refine jv_aload_n C dL_streakAnew_2 rfl ?_
  refine jv_iload_n C dL_streakAnew_3 rfl ?_
  refine jv_callVXi C (M_X8_streakAnew hT h) kw_L_87 sS_0 rfl rfl ⟨rfl, rfl⟩ (st := [jv_i 0, .ref (s0.heap.size + (148 : Int).toNat)]) rfl rfl ⟨rfl, rfl⟩ dL_streakAnew_4 (fun r_4 g_4 h => ?_) (fun E gx h => ?_)
  rotate_left 1
  · obtain ⟨rfl, h⟩ := h
    refine jv_catch1 C htab ⟨rfl, rfl⟩ (by decide) kx_L_13 kz_IndexOutOfBoundsException (fun q => ?_)
    refine jv_astore_n (ls' := [some (.ref (s0.heap.size + (0 : Int).toNat)), some (jv_i a1), some (.ref (s0.heap.size + (148 : Int).toNat)), some (.ref q)]) C dL_streakAnew_12 (Nat.lt_of_lt_of_eq (Nat.le_of_ble_eq_true rfl) hml) rfl ?_
    refine jv_const C dL_streakAnew_13 ?_
    exact jv_xret (jv_iret C hr hlk ⟨_, rfl, h⟩ dL_streakAnew_14 ⟨rfl, rfl⟩)
  obtain ⟨hr_7, h⟩ := h
  refine jv_i2l C hr_7 dL_streakAnew_7 ?_
  obtain ⟨hb_8, h⟩ := h
  refine jv_last C sS_148 rfl hb_8 dL_streakAnew_8 (jv_gm (fun g_8 eg_8 => ?_))
  replace h := h g_8 eg_8
  refine jv_goto (tgt := 15) C dL_streakAnew_9 rfl ?_
  refine jv_const C dL_streakAnew_15 ?_
  exact jv_xret (jv_iret C hr hlk ⟨_, rfl, h⟩ dL_streakAnew_16 ⟨rfl, rfl⟩)

