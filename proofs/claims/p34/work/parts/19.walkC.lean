def wB_X8_isIndex_13 (Q : Int → jv_Mem → Prop) (gj_13 : jv_Mem) : Prop :=
  Q 0 gj_13
def wp_X8_isIndex (a0 : Int) (a1 : Int) (Q : Int → jv_Mem → Prop) (g : jv_Mem) : Prop :=
  ((jv_r a0) ∧ (a0 < 0 → wB_X8_isIndex_13 Q g) ∧ (0 ≤ a0 → ((jv_r a0 ∧ jv_r a1) ∧ (a1 ≤ a0 → wB_X8_isIndex_13 Q g) ∧ (a0 < a1 → Q 1 g))))
set_option maxHeartbeats 4000000 in
set_option maxRecDepth 100000 in
theorem M_X8_isIndex {l : Launch} {s0 : State} {b0 : Addr} {D : va_G} {ids : Nat → ClassId} {ex : Option Nat} {g : jv_Mem} {a0 : Int} {a1 : Int} {Q : Int → jv_Mem → Prop} (h : wp_X8_isIndex a0 a1 Q g) : jv_M l s0 b0 D ids yX8_isIndex cX8_isIndex 2 (some .boolean) 0 0 0 0 ex jv_SH g [jv_i a0, jv_i a1] ex jv_SH (jv_qi Q) := by
  refine jv_M.of (by decide +kernel) rfl rfl (fun p e s m args below meth c C hml hr hlk hnm => ?_)
  replace C : jv_C p s m args c cX8_isIndex RX8 s0 b0 D ids := C
  show jv_V p l e (jv_rm 0 0 0 0) s m args below meth c 0 0 (jv_ZM below s0 D ids ex jv_SH (jv_qi Q) args s 0 0) s0 D ids ex jv_SH g 0 [some (jv_i a0), some (jv_i a1)] []
  unfold wp_X8_isIndex at h
  refine jv_iload_n C dX8_isIndex_0 rfl ?_
  have hJ13 : ∀ (gj_13 : jv_Mem), wB_X8_isIndex_13 Q gj_13 → jv_V p l e (jv_rm 0 0 0 0) s m args below meth c 0 0 (jv_ZM below s0 D ids ex jv_SH (jv_qi Q) args s 0 0) s0 D ids ex jv_SH gj_13 13 [none, none] [] := by
    intro gj_13 h
    unfold wB_X8_isIndex_13 at h
    refine jv_const C dX8_isIndex_13 ?_
    exact jv_zret C hr hlk rfl ⟨_, rfl, h⟩ dX8_isIndex_14 ⟨rfl, rfl⟩
  obtain ⟨hr_1, h1_1, h2_1⟩ := h
  refine jv_if_lt (tgt := 13) C hr_1 dX8_isIndex_1 rfl (fun hc_1 => ?_) (fun hc_1 => ?_)
  · replace h := h1_1 hc_1
    exact jv_less (ls' := [none, none]) trivial (hJ13 _ h)
  · replace h := h2_1 hc_1
    refine jv_iload_n C dX8_isIndex_4 rfl ?_
    refine jv_iload_n C dX8_isIndex_5 rfl ?_
    obtain ⟨hr_6, h1_6, h2_6⟩ := h
    refine jv_icmp_ge (tgt := 13) C hr_6.1 hr_6.2 dX8_isIndex_6 rfl (fun hc_6 => ?_) (fun hc_6 => ?_)
    · replace h := h1_6 hc_6
      exact jv_less (ls' := [none, none]) trivial (hJ13 _ h)
    · replace h := h2_6 hc_6
      refine jv_const C dX8_isIndex_9 ?_
      refine jv_goto (tgt := 14) C dX8_isIndex_10 rfl ?_
      exact jv_zret C hr hlk rfl ⟨_, rfl, h⟩ dX8_isIndex_14 ⟨rfl, rfl⟩

def wp_X8_needIndex (a0 : Int) (a1 : Int) (Q : jv_Mem → Prop) (g : jv_Mem) : Prop :=
  (wp_X8_isIndex a0 a1 (fun (r_2 : Int) (g_2 : jv_Mem) => ((jv_r r_2) ∧ (¬ r_2 = 0 → Q g_2) ∧ (r_2 = 0 → False))) g)
set_option maxHeartbeats 4000000 in
set_option maxRecDepth 100000 in
theorem M_X8_needIndex {l : Launch} {s0 : State} {b0 : Addr} {D : va_G} {ids : Nat → ClassId} {ex : Option Nat} {g : jv_Mem} {a0 : Int} {a1 : Int} {Q : jv_Mem → Prop} (h : wp_X8_needIndex a0 a1 Q g) : jv_M l s0 b0 D ids yX8_needIndex cX8_needIndex 2 none 1 21 0 0 ex jv_SH g [jv_i a0, jv_i a1] ex jv_SH (jv_qv Q) := by
  refine jv_M.of (by decide +kernel) rfl rfl (fun p e s m args below meth c C hml hr hlk hnm => ?_)
  replace C : jv_C p s m args c cX8_needIndex RX8 s0 b0 D ids := C
  show jv_V p l e (jv_rm 1 21 0 0) s m args below meth c 0 0 (jv_ZM below s0 D ids ex jv_SH (jv_qv Q) args s 0 0) s0 D ids ex jv_SH g 0 [some (jv_i a0), some (jv_i a1)] []
  unfold wp_X8_needIndex at h
  refine jv_iload_n C dX8_needIndex_0 rfl ?_
  refine jv_iload_n C dX8_needIndex_1 rfl ?_
  refine jv_callSi C (M_X8_isIndex h) kw_X8_139 rfl ⟨rfl, rfl⟩ (st := []) rfl rfl ⟨rfl, rfl⟩ dX8_needIndex_2 (fun r_2 g_2 h => ?_)
  obtain ⟨hr_5, h1_5, h2_5⟩ := h
  refine jv_if_ne (tgt := 19) C hr_5 dX8_needIndex_5 rfl (fun hc_5 => ?_) (fun hc_5 => ?_)
  · replace h := h1_5 hc_5
    exact jv_vret C hr hlk ⟨rfl, h⟩ dX8_needIndex_19 ⟨rfl, rfl⟩
  · replace h := h2_5 hc_5
    exact h.elim

def wp_X8_needRoomForLetter (Q : jv_Mem → Prop) (g : jv_Mem) : Prop :=
  (wp_X5_isFull (fun (r_4 : Int) (g_4 : jv_Mem) => ((jv_r r_4) ∧ (r_4 = 0 → Q g_4) ∧ (¬ r_4 = 0 → False))) g)
set_option maxHeartbeats 4000000 in
set_option maxRecDepth 100000 in
theorem M_X8_needRoomForLetter {l : Launch} {s0 : State} {b0 : Addr} {D : va_G} {ids : Nat → ClassId} {ex : Option Nat} {g : jv_Mem} {Q : jv_Mem → Prop} (h : wp_X8_needRoomForLetter Q g) : jv_M l s0 b0 D ids yX8_needRoomForLetter cX8_needRoomForLetter 1 none 1 20 0 0 ex jv_SH g [.ref (s0.heap.size + (0 : Int).toNat)] ex jv_SH (jv_qv Q) := by
  refine jv_M.of (by decide +kernel) rfl rfl (fun p e s m args below meth c C hml hr hlk hnm => ?_)
  replace C : jv_C p s m args c cX8_needRoomForLetter RX8 s0 b0 D ids := C
  show jv_V p l e (jv_rm 1 20 0 0) s m args below meth c 0 0 (jv_ZM below s0 D ids ex jv_SH (jv_qv Q) args s 0 0) s0 D ids ex jv_SH g 0 [some (.ref (s0.heap.size + (0 : Int).toNat))] []
  unfold wp_X8_needRoomForLetter at h
  refine jv_aload_n C dX8_needRoomForLetter_0 rfl ?_
  refine jv_getr C kf_X8_10 sS_0 rfl dX8_needRoomForLetter_1 ?_
  refine jv_callVi C (M_X5_isFull h) kw_X8_111 sS_1 rfl rfl ⟨rfl, rfl⟩ (st := []) rfl rfl ⟨rfl, rfl⟩ dX8_needRoomForLetter_4 (fun r_4 g_4 h => ?_)
  obtain ⟨hr_7, h1_7, h2_7⟩ := h
  refine jv_if_eq (tgt := 21) C hr_7 dX8_needRoomForLetter_7 rfl (fun hc_7 => ?_) (fun hc_7 => ?_)
  · replace h := h1_7 hc_7
    exact jv_vret C hr hlk ⟨rfl, h⟩ dX8_needRoomForLetter_21 ⟨rfl, rfl⟩
  · replace h := h2_7 hc_7
    exact h.elim

def wp_X8_spell (a1 : Int) (Q : Int → jv_Mem → Prop) (g : jv_Mem) : Prop :=
  (wp_X8_needIndex a1 9 (fun (g_3 : jv_Mem) => (wp_X8_needRoomForLetter (fun (g_7 : jv_Mem) => (wp_X5_putAtEnd a1 (fun (g_15 : jv_Mem) => (wp_X5_charCount (fun (r_22 : Int) (g_22 : jv_Mem) => Q r_22 g_22) g_15)) g_7)) g_3)) g)
set_option maxHeartbeats 4000000 in
set_option maxRecDepth 100000 in
theorem M_X8_spell {l : Launch} {s0 : State} {b0 : Addr} {D : va_G} {ids : Nat → ClassId} {ex : Option Nat} {g : jv_Mem} {a1 : Int} {Q : Int → jv_Mem → Prop} (h : wp_X8_spell a1 Q g) : jv_M l s0 b0 D ids yX8_spell cX8_spell 2 (some .int) 2 42 0 0 ex jv_SH g [.ref (s0.heap.size + (0 : Int).toNat), jv_i a1] ex jv_SH (jv_qi Q) := by
  refine jv_M.of (by decide +kernel) rfl rfl (fun p e s m args below meth c C hml hr hlk hnm => ?_)
  replace C : jv_C p s m args c cX8_spell RX8 s0 b0 D ids := C
  show jv_V p l e (jv_rm 2 42 0 0) s m args below meth c 0 0 (jv_ZM below s0 D ids ex jv_SH (jv_qi Q) args s 0 0) s0 D ids ex jv_SH g 0 [some (.ref (s0.heap.size + (0 : Int).toNat)), some (jv_i a1)] []
  unfold wp_X8_spell at h
  refine jv_iload_n C dX8_spell_0 rfl ?_
  refine jv_bipush C dX8_spell_1 (by decide +kernel) ?_
  refine jv_callSv C (M_X8_needIndex h) kw_X8_69 rfl ⟨rfl, rfl⟩ (st := []) rfl rfl ⟨rfl, rfl⟩ dX8_spell_3 (fun g_3 h => ?_)
  refine jv_aload_n C dX8_spell_6 rfl ?_
  refine jv_callVv C (M_X8_needRoomForLetter h) kw_X8_73 sS_0 rfl rfl ⟨rfl, rfl⟩ (st := []) rfl rfl ⟨rfl, rfl⟩ dX8_spell_7 (fun g_7 h => ?_)
  refine jv_aload_n C dX8_spell_10 rfl ?_
  refine jv_getr C kf_X8_10 sS_0 rfl dX8_spell_11 ?_
  refine jv_iload_n C dX8_spell_14 rfl ?_
  refine jv_callVv C (M_X5_putAtEnd h) kw_X8_76 sS_1 rfl rfl ⟨rfl, rfl⟩ (st := []) rfl rfl ⟨rfl, rfl⟩ dX8_spell_15 (fun g_15 h => ?_)
  refine jv_aload_n C dX8_spell_18 rfl ?_
  refine jv_getr C kf_X8_10 sS_0 rfl dX8_spell_19 ?_
  refine jv_callVi C (M_X5_charCount h) kw_X8_80 sS_1 rfl rfl ⟨rfl, rfl⟩ (st := []) rfl rfl ⟨rfl, rfl⟩ dX8_spell_22 (fun r_22 g_22 h => ?_)
  exact jv_iret C hr hlk ⟨_, rfl, h⟩ dX8_spell_25 ⟨rfl, rfl⟩

def wp_X8_insert (a1 : Int) (Q : Int → jv_Mem → Prop) (g : jv_Mem) : Prop :=
  (wp_X8_needIndex a1 9 (fun (g_3 : jv_Mem) => (wp_X8_needRoomForLetter (fun (g_7 : jv_Mem) => (wp_X5_putAtBeginning a1 (fun (g_15 : jv_Mem) => (wp_X5_charCount (fun (r_22 : Int) (g_22 : jv_Mem) => Q r_22 g_22) g_15)) g_7)) g_3)) g)
set_option maxHeartbeats 4000000 in
set_option maxRecDepth 100000 in
theorem M_X8_insert {l : Launch} {s0 : State} {b0 : Addr} {D : va_G} {ids : Nat → ClassId} {ex : Option Nat} {g : jv_Mem} {a1 : Int} {Q : Int → jv_Mem → Prop} (h : wp_X8_insert a1 Q g) : jv_M l s0 b0 D ids yX8_insert cX8_insert 2 (some .int) 2 42 0 0 ex jv_SH g [.ref (s0.heap.size + (0 : Int).toNat), jv_i a1] ex jv_SH (jv_qi Q) := by
  refine jv_M.of (by decide +kernel) rfl rfl (fun p e s m args below meth c C hml hr hlk hnm => ?_)
  replace C : jv_C p s m args c cX8_insert RX8 s0 b0 D ids := C
  show jv_V p l e (jv_rm 2 42 0 0) s m args below meth c 0 0 (jv_ZM below s0 D ids ex jv_SH (jv_qi Q) args s 0 0) s0 D ids ex jv_SH g 0 [some (.ref (s0.heap.size + (0 : Int).toNat)), some (jv_i a1)] []
  unfold wp_X8_insert at h
  refine jv_iload_n C dX8_insert_0 rfl ?_
  refine jv_bipush C dX8_insert_1 (by decide +kernel) ?_
  refine jv_callSv C (M_X8_needIndex h) kw_X8_69 rfl ⟨rfl, rfl⟩ (st := []) rfl rfl ⟨rfl, rfl⟩ dX8_insert_3 (fun g_3 h => ?_)
  refine jv_aload_n C dX8_insert_6 rfl ?_
  refine jv_callVv C (M_X8_needRoomForLetter h) kw_X8_73 sS_0 rfl rfl ⟨rfl, rfl⟩ (st := []) rfl rfl ⟨rfl, rfl⟩ dX8_insert_7 (fun g_7 h => ?_)
  refine jv_aload_n C dX8_insert_10 rfl ?_
  refine jv_getr C kf_X8_10 sS_0 rfl dX8_insert_11 ?_
  refine jv_iload_n C dX8_insert_14 rfl ?_
  refine jv_callVv C (M_X5_putAtBeginning h) kw_X8_84 sS_1 rfl rfl ⟨rfl, rfl⟩ (st := []) rfl rfl ⟨rfl, rfl⟩ dX8_insert_15 (fun g_15 h => ?_)
  refine jv_aload_n C dX8_insert_18 rfl ?_
  refine jv_getr C kf_X8_10 sS_0 rfl dX8_insert_19 ?_
  refine jv_callVi C (M_X5_charCount h) kw_X8_80 sS_1 rfl rfl ⟨rfl, rfl⟩ (st := []) rfl rfl ⟨rfl, rfl⟩ dX8_insert_22 (fun r_22 g_22 h => ?_)
  exact jv_iret C hr hlk ⟨_, rfl, h⟩ dX8_insert_25 ⟨rfl, rfl⟩

def wp_X8_turn (Q : Int → jv_Mem → Prop) (g : jv_Mem) : Prop :=
  (wp_X5_reverse (fun (g_4 : jv_Mem) => (wp_X5_letterCount (fun (r_11 : Int) (g_11 : jv_Mem) => Q r_11 g_11) g_4)) g)
set_option maxHeartbeats 4000000 in
set_option maxRecDepth 100000 in
theorem M_X8_turn {l : Launch} {s0 : State} {b0 : Addr} {D : va_G} {ids : Nat → ClassId} {ex : Option Nat} {g : jv_Mem} {Q : Int → jv_Mem → Prop} (h : wp_X8_turn Q g) : jv_M l s0 b0 D ids yX8_turn cX8_turn 1 (some .int) 1 21 0 0 ex jv_SH g [.ref (s0.heap.size + (0 : Int).toNat)] ex jv_SH (jv_qi Q) := by
  refine jv_M.of (by decide +kernel) rfl rfl (fun p e s m args below meth c C hml hr hlk hnm => ?_)
  replace C : jv_C p s m args c cX8_turn RX8 s0 b0 D ids := C
  show jv_V p l e (jv_rm 1 21 0 0) s m args below meth c 0 0 (jv_ZM below s0 D ids ex jv_SH (jv_qi Q) args s 0 0) s0 D ids ex jv_SH g 0 [some (.ref (s0.heap.size + (0 : Int).toNat))] []
  unfold wp_X8_turn at h
  refine jv_aload_n C dX8_turn_0 rfl ?_
  refine jv_getr C kf_X8_10 sS_0 rfl dX8_turn_1 ?_
  refine jv_callVv C (M_X5_reverse h) kw_X8_87 sS_1 rfl rfl ⟨rfl, rfl⟩ (st := []) rfl rfl ⟨rfl, rfl⟩ dX8_turn_4 (fun g_4 h => ?_)
  refine jv_aload_n C dX8_turn_7 rfl ?_
  refine jv_getr C kf_X8_10 sS_0 rfl dX8_turn_8 ?_
  refine jv_callVi C (M_X5_letterCount h) kw_X8_90 sS_1 rfl rfl ⟨rfl, rfl⟩ (st := []) rfl rfl ⟨rfl, rfl⟩ dX8_turn_11 (fun r_11 g_11 h => ?_)
  exact jv_iret C hr hlk ⟨_, rfl, h⟩ dX8_turn_14 ⟨rfl, rfl⟩

def wp_X8_clearSpelled (Q : Int → jv_Mem → Prop) (g : jv_Mem) : Prop :=
  (wp_X5_letterCount (fun (r_4 : Int) (g_4 : jv_Mem) => (wp_X5_empty (fun (g_12 : jv_Mem) => Q r_4 g_12) g_4)) g)
set_option maxHeartbeats 4000000 in
set_option maxRecDepth 100000 in
theorem M_X8_clearSpelled {l : Launch} {s0 : State} {b0 : Addr} {D : va_G} {ids : Nat → ClassId} {ex : Option Nat} {g : jv_Mem} {Q : Int → jv_Mem → Prop} (h : wp_X8_clearSpelled Q g) : jv_M l s0 b0 D ids yX8_clearSpelled cX8_clearSpelled 2 (some .int) 1 20 0 0 ex jv_SH g [.ref (s0.heap.size + (0 : Int).toNat)] ex jv_SH (jv_qi Q) := by
  refine jv_M.of (by decide +kernel) rfl rfl (fun p e s m args below meth c C hml hr hlk hnm => ?_)
  replace C : jv_C p s m args c cX8_clearSpelled RX8 s0 b0 D ids := C
  show jv_V p l e (jv_rm 1 20 0 0) s m args below meth c 0 0 (jv_ZM below s0 D ids ex jv_SH (jv_qi Q) args s 0 0) s0 D ids ex jv_SH g 0 [some (.ref (s0.heap.size + (0 : Int).toNat)), none] []
  unfold wp_X8_clearSpelled at h
  refine jv_aload_n C dX8_clearSpelled_0 rfl ?_
  refine jv_getr C kf_X8_10 sS_0 rfl dX8_clearSpelled_1 ?_
  refine jv_callVi C (M_X5_letterCount h) kw_X8_90 sS_1 rfl rfl ⟨rfl, rfl⟩ (st := []) rfl rfl ⟨rfl, rfl⟩ dX8_clearSpelled_4 (fun r_4 g_4 h => ?_)
  refine jv_istore_n (ls' := [some (.ref (s0.heap.size + (0 : Int).toNat)), some (jv_i r_4)]) C dX8_clearSpelled_7 (Nat.lt_of_lt_of_eq (Nat.le_of_ble_eq_true rfl) hml) rfl ?_
  refine jv_aload_n C dX8_clearSpelled_8 rfl ?_
  refine jv_getr C kf_X8_10 sS_0 rfl dX8_clearSpelled_9 ?_
  refine jv_callVv C (M_X5_empty h) kw_X8_93 sS_1 rfl rfl ⟨rfl, rfl⟩ (st := []) rfl rfl ⟨rfl, rfl⟩ dX8_clearSpelled_12 (fun g_12 h => ?_)
  refine jv_iload_n C dX8_clearSpelled_15 rfl ?_
  exact jv_iret C hr hlk ⟨_, rfl, h⟩ dX8_clearSpelled_16 ⟨rfl, rfl⟩

def wp_X8_charAt (a1 : Int) (Q : Int → jv_Mem → Prop) (g : jv_Mem) : Prop :=
  (wp_X5_charOrNone a1 (fun (r_5 : Int) (g_5 : jv_Mem) => ((jv_r r_5) ∧ (¬ r_5 = ((-1)) → ((0 ≤ r_5 ∧ r_5 < 65536) ∧ (((0 : Int) ≤ r_5 ∧ r_5 < (65536 : Int)) ∧ Q r_5 g_5))) ∧ (r_5 = ((-1)) → False))) g)
set_option maxHeartbeats 4000000 in
set_option maxRecDepth 100000 in
theorem M_X8_charAt {l : Launch} {s0 : State} {b0 : Addr} {D : va_G} {ids : Nat → ClassId} {ex : Option Nat} {g : jv_Mem} {a1 : Int} {Q : Int → jv_Mem → Prop} (h : wp_X8_charAt a1 Q g) : jv_M l s0 b0 D ids yX8_charAt cX8_charAt 3 (some .char) 2 45 0 0 ex jv_SH g [.ref (s0.heap.size + (0 : Int).toNat), jv_i a1] ex jv_SH (jv_qi Q) := by
  refine jv_M.of (by decide +kernel) rfl rfl (fun p e s m args below meth c C hml hr hlk hnm => ?_)
  replace C : jv_C p s m args c cX8_charAt RX8 s0 b0 D ids := C
  show jv_V p l e (jv_rm 2 45 0 0) s m args below meth c 0 0 (jv_ZM below s0 D ids ex jv_SH (jv_qi Q) args s 0 0) s0 D ids ex jv_SH g 0 [some (.ref (s0.heap.size + (0 : Int).toNat)), some (jv_i a1), none] []
  unfold wp_X8_charAt at h
  refine jv_aload_n C dX8_charAt_0 rfl ?_
  refine jv_getr C kf_X8_10 sS_0 rfl dX8_charAt_1 ?_
  refine jv_iload_n C dX8_charAt_4 rfl ?_
  refine jv_callVi C (M_X5_charOrNone h) kw_X8_96 sS_1 rfl rfl ⟨rfl, rfl⟩ (st := []) rfl rfl ⟨rfl, rfl⟩ dX8_charAt_5 (fun r_5 g_5 h => ?_)
  refine jv_istore_n (ls' := [some (.ref (s0.heap.size + (0 : Int).toNat)), some (jv_i a1), some (jv_i r_5)]) C dX8_charAt_8 (Nat.lt_of_lt_of_eq (Nat.le_of_ble_eq_true rfl) hml) rfl ?_
  refine jv_iload_n C dX8_charAt_9 rfl ?_
  refine jv_const C dX8_charAt_10 ?_
  obtain ⟨hr_11, h1_11, h2_11⟩ := h
  refine jv_icmp_ne (tgt := 24) C hr_11 ⟨by decide, by decide⟩ dX8_charAt_11 rfl (fun hc_11 => ?_) (fun hc_11 => ?_)
  · replace h := h1_11 hc_11
    refine jv_iload_n C dX8_charAt_24 rfl ?_
    obtain ⟨hb_25, h⟩ := h
    refine jv_i2c C hb_25 dX8_charAt_25 ?_
    obtain ⟨hz_26, h⟩ := h
    exact jv_zret C hr hlk (jv_nc hz_26) ⟨_, rfl, h⟩ dX8_charAt_26 ⟨rfl, rfl⟩
  · replace h := h2_11 hc_11
    exact h.elim

def wB_X8_needRange_10 (gj_10 : jv_Mem) : Prop :=
  False
def wp_X8_needRange (a0 : Int) (a1 : Int) (a2 : Int) (Q : jv_Mem → Prop) (g : jv_Mem) : Prop :=
  ((jv_r a0 ∧ jv_r a1) ∧ (a0 < a1 → wB_X8_needRange_10 g) ∧ (a1 ≤ a0 → ((jv_r a0 ∧ jv_r a2) ∧ (a0 ≤ a2 → Q g) ∧ (a2 < a0 → wB_X8_needRange_10 g))))
set_option maxHeartbeats 4000000 in
set_option maxRecDepth 100000 in
theorem M_X8_needRange {l : Launch} {s0 : State} {b0 : Addr} {D : va_G} {ids : Nat → ClassId} {ex : Option Nat} {g : jv_Mem} {a0 : Int} {a1 : Int} {a2 : Int} {Q : jv_Mem → Prop} (h : wp_X8_needRange a0 a1 a2 Q g) : jv_M l s0 b0 D ids yX8_needRange cX8_needRange 3 none 0 0 0 0 ex jv_SH g [jv_i a0, jv_i a1, jv_i a2] ex jv_SH (jv_qv Q) := by
  refine jv_M.of (by decide +kernel) rfl rfl (fun p e s m args below meth c C hml hr hlk hnm => ?_)
  replace C : jv_C p s m args c cX8_needRange RX8 s0 b0 D ids := C
  show jv_V p l e (jv_rm 0 0 0 0) s m args below meth c 0 0 (jv_ZM below s0 D ids ex jv_SH (jv_qv Q) args s 0 0) s0 D ids ex jv_SH g 0 [some (jv_i a0), some (jv_i a1), some (jv_i a2)] []
  unfold wp_X8_needRange at h
  refine jv_iload_n C dX8_needRange_0 rfl ?_
  refine jv_iload_n C dX8_needRange_1 rfl ?_
  have hJ10 : ∀ (gj_10 : jv_Mem), wB_X8_needRange_10 gj_10 → jv_V p l e (jv_rm 0 0 0 0) s m args below meth c 0 0 (jv_ZM below s0 D ids ex jv_SH (jv_qv Q) args s 0 0) s0 D ids ex jv_SH gj_10 10 [none, none, none] [] := by
    intro gj_10 h
    unfold wB_X8_needRange_10 at h
    exact h.elim
  obtain ⟨hr_2, h1_2, h2_2⟩ := h
  refine jv_icmp_lt (tgt := 10) C hr_2.1 hr_2.2 dX8_needRange_2 rfl (fun hc_2 => ?_) (fun hc_2 => ?_)
  · replace h := h1_2 hc_2
    exact jv_less (ls' := [none, none, none]) trivial (hJ10 _ h)
  · replace h := h2_2 hc_2
    refine jv_iload_n C dX8_needRange_5 rfl ?_
    refine jv_iload_n C dX8_needRange_6 rfl ?_
    obtain ⟨hr_7, h1_7, h2_7⟩ := h
    refine jv_icmp_le (tgt := 21) C hr_7.1 hr_7.2 dX8_needRange_7 rfl (fun hc_7 => ?_) (fun hc_7 => ?_)
    · replace h := h1_7 hc_7
      exact jv_vret C hr hlk ⟨rfl, h⟩ dX8_needRange_21 ⟨rfl, rfl⟩
    · replace h := h2_7 hc_7
      exact jv_less (ls' := [none, none, none]) trivial (hJ10 _ h)

def wp_X8_setWeight (a1 : Int) (a2 : Int) (Q : Int → jv_Mem → Prop) (g : jv_Mem) : Prop :=
  (wp_X7_count (fun (r_5 : Int) (g_5 : jv_Mem) => (wp_X8_needIndex a1 r_5 (fun (g_8 : jv_Mem) => (wp_X8_needRange a2 0 99 (fun (g_15 : jv_Mem) => (wp_X7_weight a1 (fun (r_23 : Int) (g_23 : jv_Mem) => (wp_X7_weigh a1 a2 (fun (g_33 : jv_Mem) => Q r_23 g_33) g_23)) g_15)) g_8)) g_5)) g)
set_option maxHeartbeats 4000000 in
set_option maxRecDepth 100000 in
theorem M_X8_setWeight {l : Launch} {s0 : State} {b0 : Addr} {D : va_G} {ids : Nat → ClassId} {ex : Option Nat} {g : jv_Mem} {a1 : Int} {a2 : Int} {Q : Int → jv_Mem → Prop} (h : wp_X8_setWeight a1 a2 Q g) : jv_M l s0 b0 D ids yX8_setWeight cX8_setWeight 4 (some .int) 2 42 0 0 ex jv_SH g [.ref (s0.heap.size + (0 : Int).toNat), jv_i a1, jv_i a2] ex jv_SH (jv_qi Q) := by
  refine jv_M.of (by decide +kernel) rfl rfl (fun p e s m args below meth c C hml hr hlk hnm => ?_)
  replace C : jv_C p s m args c cX8_setWeight RX8 s0 b0 D ids := C
  show jv_V p l e (jv_rm 2 42 0 0) s m args below meth c 0 0 (jv_ZM below s0 D ids ex jv_SH (jv_qi Q) args s 0 0) s0 D ids ex jv_SH g 0 [some (.ref (s0.heap.size + (0 : Int).toNat)), some (jv_i a1), some (jv_i a2), none] []
  unfold wp_X8_setWeight at h
  refine jv_iload_n C dX8_setWeight_0 rfl ?_
  refine jv_aload_n C dX8_setWeight_1 rfl ?_
  refine jv_getr C kf_X8_19 sS_0 rfl dX8_setWeight_2 ?_
  refine jv_callVi C (M_X7_count h) kw_X8_121 sS_3 rfl rfl ⟨rfl, rfl⟩ (st := [jv_i a1]) rfl rfl ⟨rfl, rfl⟩ dX8_setWeight_5 (fun r_5 g_5 h => ?_)
  refine jv_callSv C (M_X8_needIndex h) kw_X8_69 rfl ⟨rfl, rfl⟩ (st := []) rfl rfl ⟨rfl, rfl⟩ dX8_setWeight_8 (fun g_8 h => ?_)
  refine jv_iload_n C dX8_setWeight_11 rfl ?_
  refine jv_const C dX8_setWeight_12 ?_
  refine jv_bipush C dX8_setWeight_13 (by decide +kernel) ?_
  refine jv_callSv C (M_X8_needRange h) kw_X8_107 rfl ⟨rfl, rfl⟩ (st := []) rfl rfl ⟨rfl, rfl⟩ dX8_setWeight_15 (fun g_15 h => ?_)
  refine jv_aload_n C dX8_setWeight_18 rfl ?_
  refine jv_getr C kf_X8_19 sS_0 rfl dX8_setWeight_19 ?_
  refine jv_iload_n C dX8_setWeight_22 rfl ?_
  refine jv_callVi C (M_X7_weight h) kw_X8_133 sS_3 rfl rfl ⟨rfl, rfl⟩ (st := []) rfl rfl ⟨rfl, rfl⟩ dX8_setWeight_23 (fun r_23 g_23 h => ?_)
  refine jv_istore_n (ls' := [some (.ref (s0.heap.size + (0 : Int).toNat)), some (jv_i a1), some (jv_i a2), some (jv_i r_23)]) C dX8_setWeight_26 (Nat.lt_of_lt_of_eq (Nat.le_of_ble_eq_true rfl) hml) rfl ?_
  refine jv_aload_n C dX8_setWeight_27 rfl ?_
  refine jv_getr C kf_X8_19 sS_0 rfl dX8_setWeight_28 ?_
  refine jv_iload_n C dX8_setWeight_31 rfl ?_
  refine jv_iload_n C dX8_setWeight_32 rfl ?_
  refine jv_callVv C (M_X7_weigh h) kw_X8_136 sS_3 rfl rfl ⟨rfl, rfl⟩ (st := []) rfl rfl ⟨rfl, rfl⟩ dX8_setWeight_33 (fun g_33 h => ?_)
  refine jv_iload_n C dX8_setWeight_36 rfl ?_
  exact jv_iret C hr hlk ⟨_, rfl, h⟩ dX8_setWeight_37 ⟨rfl, rfl⟩

def wp_X8_wordAt (a1 : Int) (Q : Int → jv_Mem → Prop) (g : jv_Mem) : Prop :=
  (wp_X7_count (fun (r_5 : Int) (g_5 : jv_Mem) => (wp_X8_isIndex a1 r_5 (fun (r_8 : Int) (g_8 : jv_Mem) => ((jv_r r_8) ∧ (r_8 = 0 → Q ((-1)) g_8) ∧ (¬ r_8 = 0 → (wp_X7_inOrder a1 (fun (r_19 : Int) (g_19 : jv_Mem) => Q r_19 g_19) g_8)))) g_5)) g)
set_option maxHeartbeats 4000000 in
set_option maxRecDepth 100000 in
theorem M_X8_wordAt {l : Launch} {s0 : State} {b0 : Addr} {D : va_G} {ids : Nat → ClassId} {ex : Option Nat} {g : jv_Mem} {a1 : Int} {Q : Int → jv_Mem → Prop} (h : wp_X8_wordAt a1 Q g) : jv_M l s0 b0 D ids yX8_wordAt cX8_wordAt 2 (some .int) 1 21 0 0 ex jv_SH g [.ref (s0.heap.size + (0 : Int).toNat), jv_i a1] ex jv_SH (jv_qi Q) := by
  refine jv_M.of (by decide +kernel) rfl rfl (fun p e s m args below meth c C hml hr hlk hnm => ?_)
  replace C : jv_C p s m args c cX8_wordAt RX8 s0 b0 D ids := C
  show jv_V p l e (jv_rm 1 21 0 0) s m args below meth c 0 0 (jv_ZM below s0 D ids ex jv_SH (jv_qi Q) args s 0 0) s0 D ids ex jv_SH g 0 [some (.ref (s0.heap.size + (0 : Int).toNat)), some (jv_i a1)] []
  unfold wp_X8_wordAt at h
  refine jv_iload_n C dX8_wordAt_0 rfl ?_
  refine jv_aload_n C dX8_wordAt_1 rfl ?_
  refine jv_getr C kf_X8_19 sS_0 rfl dX8_wordAt_2 ?_
  refine jv_callVi C (M_X7_count h) kw_X8_121 sS_3 rfl rfl ⟨rfl, rfl⟩ (st := [jv_i a1]) rfl rfl ⟨rfl, rfl⟩ dX8_wordAt_5 (fun r_5 g_5 h => ?_)
  refine jv_callSi C (M_X8_isIndex h) kw_X8_139 rfl ⟨rfl, rfl⟩ (st := []) rfl rfl ⟨rfl, rfl⟩ dX8_wordAt_8 (fun r_8 g_8 h => ?_)
  obtain ⟨hr_11, h1_11, h2_11⟩ := h
  refine jv_if_eq (tgt := 25) C hr_11 dX8_wordAt_11 rfl (fun hc_11 => ?_) (fun hc_11 => ?_)
  · replace h := h1_11 hc_11
    refine jv_const C dX8_wordAt_25 ?_
    exact jv_iret C hr hlk ⟨_, rfl, h⟩ dX8_wordAt_26 ⟨rfl, rfl⟩
  · replace h := h2_11 hc_11
    refine jv_aload_n C dX8_wordAt_14 rfl ?_
    refine jv_getr C kf_X8_19 sS_0 rfl dX8_wordAt_15 ?_
    refine jv_iload_n C dX8_wordAt_18 rfl ?_
    refine jv_callVi C (M_X7_inOrder h) kw_X8_143 sS_3 rfl rfl ⟨rfl, rfl⟩ (st := []) rfl rfl ⟨rfl, rfl⟩ dX8_wordAt_19 (fun r_19 g_19 h => ?_)
    refine jv_goto (tgt := 26) C dX8_wordAt_22 rfl ?_
    exact jv_iret C hr hlk ⟨_, rfl, h⟩ dX8_wordAt_26 ⟨rfl, rfl⟩

def wp_X8_beginning (Q : Int → jv_Mem → Prop) (g : jv_Mem) : Prop :=
  (wp_X5_code (fun (r_8 : Int) (g_8 : jv_Mem) => (wp_X7_beginningWith r_8 (fun (r_11 : Int) (g_11 : jv_Mem) => Q r_11 g_11) g_8)) g)
set_option maxHeartbeats 4000000 in
set_option maxRecDepth 100000 in
theorem M_X8_beginning {l : Launch} {s0 : State} {b0 : Addr} {D : va_G} {ids : Nat → ClassId} {ex : Option Nat} {g : jv_Mem} {Q : Int → jv_Mem → Prop} (h : wp_X8_beginning Q g) : jv_M l s0 b0 D ids yX8_beginning cX8_beginning 1 (some .int) 1 22 0 0 ex jv_SH g [.ref (s0.heap.size + (0 : Int).toNat)] ex jv_SH (jv_qi Q) := by
  refine jv_M.of (by decide +kernel) rfl rfl (fun p e s m args below meth c C hml hr hlk hnm => ?_)
  replace C : jv_C p s m args c cX8_beginning RX8 s0 b0 D ids := C
  show jv_V p l e (jv_rm 1 22 0 0) s m args below meth c 0 0 (jv_ZM below s0 D ids ex jv_SH (jv_qi Q) args s 0 0) s0 D ids ex jv_SH g 0 [some (.ref (s0.heap.size + (0 : Int).toNat))] []
  unfold wp_X8_beginning at h
  refine jv_aload_n C dX8_beginning_0 rfl ?_
  refine jv_getr C kf_X8_19 sS_0 rfl dX8_beginning_1 ?_
  refine jv_aload_n C dX8_beginning_4 rfl ?_
  refine jv_getr C kf_X8_10 sS_0 rfl dX8_beginning_5 ?_
  refine jv_callVi C (M_X5_code h) kw_X8_115 sS_1 rfl rfl ⟨rfl, rfl⟩ (st := [.ref (s0.heap.size + (3 : Int).toNat)]) rfl rfl ⟨rfl, rfl⟩ dX8_beginning_8 (fun r_8 g_8 h => ?_)
  refine jv_callVi C (M_X7_beginningWith h) kw_X8_118 sS_3 rfl rfl ⟨rfl, rfl⟩ (st := []) rfl rfl ⟨rfl, rfl⟩ dX8_beginning_11 (fun r_11 g_11 h => ?_)
  exact jv_iret C hr hlk ⟨_, rfl, h⟩ dX8_beginning_14 ⟨rfl, rfl⟩

def wB_X8_fix_17 (a1 : Int) (a2 : Int) (Q : Int → jv_Mem → Prop) (gj_17 : jv_Mem) : Prop :=
  (wp_X6_fixedLetter a1 (fun (r_22 : Int) (g_22 : jv_Mem) => (wp_X6_setFixed a1 a2 (fun (g_32 : jv_Mem) => Q r_22 g_32) g_22)) gj_17)
def wp_X8_fix (a1 : Int) (a2 : Int) (Q : Int → jv_Mem → Prop) (g : jv_Mem) : Prop :=
  (wp_X8_needIndex a1 9 (fun (g_3 : jv_Mem) => ((jv_r a2) ∧ (a2 = ((-1)) → wB_X8_fix_17 a1 a2 Q g_3) ∧ (¬ a2 = ((-1)) → (wp_X8_needIndex a2 9 (fun (g_14 : jv_Mem) => wB_X8_fix_17 a1 a2 Q g_14) g_3)))) g)
set_option maxHeartbeats 4000000 in
set_option maxRecDepth 100000 in
theorem M_X8_fix {l : Launch} {s0 : State} {b0 : Addr} {D : va_G} {ids : Nat → ClassId} {ex : Option Nat} {g : jv_Mem} {a1 : Int} {a2 : Int} {Q : Int → jv_Mem → Prop} (h : wp_X8_fix a1 a2 Q g) : jv_M l s0 b0 D ids yX8_fix cX8_fix 4 (some .int) 2 42 0 0 ex jv_SH g [.ref (s0.heap.size + (0 : Int).toNat), jv_i a1, jv_i a2] ex jv_SH (jv_qi Q) := by
  refine jv_M.of (by decide +kernel) rfl rfl (fun p e s m args below meth c C hml hr hlk hnm => ?_)
  replace C : jv_C p s m args c cX8_fix RX8 s0 b0 D ids := C
  show jv_V p l e (jv_rm 2 42 0 0) s m args below meth c 0 0 (jv_ZM below s0 D ids ex jv_SH (jv_qi Q) args s 0 0) s0 D ids ex jv_SH g 0 [some (.ref (s0.heap.size + (0 : Int).toNat)), some (jv_i a1), some (jv_i a2), none] []
  unfold wp_X8_fix at h
  refine jv_iload_n C dX8_fix_0 rfl ?_
  refine jv_bipush C dX8_fix_1 (by decide +kernel) ?_
  refine jv_callSv C (M_X8_needIndex h) kw_X8_69 rfl ⟨rfl, rfl⟩ (st := []) rfl rfl ⟨rfl, rfl⟩ dX8_fix_3 (fun g_3 h => ?_)
  refine jv_iload_n C dX8_fix_6 rfl ?_
  refine jv_const C dX8_fix_7 ?_
  have hJ17 : ∀ (gj_17 : jv_Mem), wB_X8_fix_17 a1 a2 Q gj_17 → jv_V p l e (jv_rm 2 42 0 0) s m args below meth c 0 0 (jv_ZM below s0 D ids ex jv_SH (jv_qi Q) args s 0 0) s0 D ids ex jv_SH gj_17 17 [some (.ref (s0.heap.size + (0 : Int).toNat)), some (jv_i a1), some (jv_i a2), none] [] := by
    intro gj_17 h
    unfold wB_X8_fix_17 at h
    refine jv_aload_n C dX8_fix_17 rfl ?_
    refine jv_getr C kf_X8_26 sS_0 rfl dX8_fix_18 ?_
    refine jv_iload_n C dX8_fix_21 rfl ?_
    refine jv_callVi C (M_X6_fixedLetter h) kw_X8_146 sS_10 rfl rfl ⟨rfl, rfl⟩ (st := []) rfl rfl ⟨rfl, rfl⟩ dX8_fix_22 (fun r_22 g_22 h => ?_)
    refine jv_istore_n (ls' := [some (.ref (s0.heap.size + (0 : Int).toNat)), some (jv_i a1), some (jv_i a2), some (jv_i r_22)]) C dX8_fix_25 (Nat.lt_of_lt_of_eq (Nat.le_of_ble_eq_true rfl) hml) rfl ?_
    refine jv_aload_n C dX8_fix_26 rfl ?_
    refine jv_getr C kf_X8_26 sS_0 rfl dX8_fix_27 ?_
    refine jv_iload_n C dX8_fix_30 rfl ?_
    refine jv_iload_n C dX8_fix_31 rfl ?_
    refine jv_callVv C (M_X6_setFixed h) kw_X8_149 sS_10 rfl rfl ⟨rfl, rfl⟩ (st := []) rfl rfl ⟨rfl, rfl⟩ dX8_fix_32 (fun g_32 h => ?_)
    refine jv_iload_n C dX8_fix_35 rfl ?_
    exact jv_iret C hr hlk ⟨_, rfl, h⟩ dX8_fix_36 ⟨rfl, rfl⟩
  obtain ⟨hr_8, h1_8, h2_8⟩ := h
  refine jv_icmp_eq (tgt := 17) C hr_8 ⟨by decide, by decide⟩ dX8_fix_8 rfl (fun hc_8 => ?_) (fun hc_8 => ?_)
  · replace h := h1_8 hc_8
    exact jv_less (ls' := [some (.ref (s0.heap.size + (0 : Int).toNat)), some (jv_i a1), some (jv_i a2), none]) ⟨rfl, ⟨rfl, ⟨rfl, trivial⟩⟩⟩ (hJ17 _ h)
  · replace h := h2_8 hc_8
    refine jv_iload_n C dX8_fix_11 rfl ?_
    refine jv_bipush C dX8_fix_12 (by decide +kernel) ?_
    refine jv_callSv C (M_X8_needIndex h) kw_X8_69 rfl ⟨rfl, rfl⟩ (st := []) rfl rfl ⟨rfl, rfl⟩ dX8_fix_14 (fun g_14 h => ?_)
    exact jv_less (ls' := [some (.ref (s0.heap.size + (0 : Int).toNat)), some (jv_i a1), some (jv_i a2), none]) ⟨rfl, ⟨rfl, ⟨rfl, trivial⟩⟩⟩ (hJ17 _ h)

def wp_X8_fillWeight (Q : Int → jv_Mem → Prop) (g : jv_Mem) : Prop :=
  (wp_X6_search (fun (g_8 : jv_Mem) => (wp_X6_bestWeight (fun (r_15 : Int) (g_15 : jv_Mem) => Q r_15 g_15) g_8)) g)
set_option maxHeartbeats 4000000 in
set_option maxRecDepth 100000 in
theorem M_X8_fillWeight {l : Launch} {s0 : State} {b0 : Addr} {D : va_G} {ids : Nat → ClassId} {ex : Option Nat} {g : jv_Mem} {Q : Int → jv_Mem → Prop} (h : wp_X8_fillWeight Q g) : jv_M l s0 b0 D ids yX8_fillWeight cX8_fillWeight 1 (some .int) 4 95 0 0 ex jv_SH g [.ref (s0.heap.size + (0 : Int).toNat)] ex jv_SH (jv_qi Q) := by
  refine jv_M.of (by decide +kernel) rfl rfl (fun p e s m args below meth c C hml hr hlk hnm => ?_)
  replace C : jv_C p s m args c cX8_fillWeight RX8 s0 b0 D ids := C
  show jv_V p l e (jv_rm 4 95 0 0) s m args below meth c 0 0 (jv_ZM below s0 D ids ex jv_SH (jv_qi Q) args s 0 0) s0 D ids ex jv_SH g 0 [some (.ref (s0.heap.size + (0 : Int).toNat))] []
  unfold wp_X8_fillWeight at h
  refine jv_aload_n C dX8_fillWeight_0 rfl ?_
  refine jv_getr C kf_X8_26 sS_0 rfl dX8_fillWeight_1 ?_
  refine jv_aload_n C dX8_fillWeight_4 rfl ?_
  refine jv_getr C kf_X8_19 sS_0 rfl dX8_fillWeight_5 ?_
  refine jv_callVv C (M_X6_search h) kw_X8_152 sS_10 rfl rfl ⟨rfl, rfl⟩ (st := []) rfl rfl ⟨rfl, rfl⟩ dX8_fillWeight_8 (fun g_8 h => ?_)
  refine jv_aload_n C dX8_fillWeight_11 rfl ?_
  refine jv_getr C kf_X8_26 sS_0 rfl dX8_fillWeight_12 ?_
  refine jv_callVi C (M_X6_bestWeight h) kw_X8_156 sS_10 rfl rfl ⟨rfl, rfl⟩ (st := []) rfl rfl ⟨rfl, rfl⟩ dX8_fillWeight_15 (fun r_15 g_15 h => ?_)
  exact jv_iret C hr hlk ⟨_, rfl, h⟩ dX8_fillWeight_18 ⟨rfl, rfl⟩

def wp_X8_fillWeightByAll (Q : Int → jv_Mem → Prop) (g : jv_Mem) : Prop :=
  (wp_X6_greatestWeightOfAll (fun (r_8 : Int) (g_8 : jv_Mem) => Q r_8 g_8) g)
set_option maxHeartbeats 4000000 in
set_option maxRecDepth 100000 in
theorem M_X8_fillWeightByAll {l : Launch} {s0 : State} {b0 : Addr} {D : va_G} {ids : Nat → ClassId} {ex : Option Nat} {g : jv_Mem} {Q : Int → jv_Mem → Prop} (h : wp_X8_fillWeightByAll Q g) : jv_M l s0 b0 D ids yX8_fillWeightByAll cX8_fillWeightByAll 1 (some .int) 5 118 0 0 ex jv_SH g [.ref (s0.heap.size + (0 : Int).toNat)] ex jv_SH (jv_qi Q) := by
  refine jv_M.of (by decide +kernel) rfl rfl (fun p e s m args below meth c C hml hr hlk hnm => ?_)
  replace C : jv_C p s m args c cX8_fillWeightByAll RX8 s0 b0 D ids := C
  show jv_V p l e (jv_rm 5 118 0 0) s m args below meth c 0 0 (jv_ZM below s0 D ids ex jv_SH (jv_qi Q) args s 0 0) s0 D ids ex jv_SH g 0 [some (.ref (s0.heap.size + (0 : Int).toNat))] []
  unfold wp_X8_fillWeightByAll at h
  refine jv_aload_n C dX8_fillWeightByAll_0 rfl ?_
  refine jv_getr C kf_X8_26 sS_0 rfl dX8_fillWeightByAll_1 ?_
  refine jv_aload_n C dX8_fillWeightByAll_4 rfl ?_
  refine jv_getr C kf_X8_19 sS_0 rfl dX8_fillWeightByAll_5 ?_
  refine jv_callVi C (M_X6_greatestWeightOfAll h) kw_X8_159 sS_10 rfl rfl ⟨rfl, rfl⟩ (st := []) rfl rfl ⟨rfl, rfl⟩ dX8_fillWeightByAll_8 (fun r_8 g_8 h => ?_)
  exact jv_iret C hr hlk ⟨_, rfl, h⟩ dX8_fillWeightByAll_11 ⟨rfl, rfl⟩

def wp_X8_fills (Q : Int → jv_Mem → Prop) (g : jv_Mem) : Prop :=
  (wp_X6_search (fun (g_8 : jv_Mem) => (wp_X6_foundCount (fun (r_15 : Int) (g_15 : jv_Mem) => Q r_15 g_15) g_8)) g)
set_option maxHeartbeats 4000000 in
set_option maxRecDepth 100000 in
theorem M_X8_fills {l : Launch} {s0 : State} {b0 : Addr} {D : va_G} {ids : Nat → ClassId} {ex : Option Nat} {g : jv_Mem} {Q : Int → jv_Mem → Prop} (h : wp_X8_fills Q g) : jv_M l s0 b0 D ids yX8_fills cX8_fills 1 (some .int) 4 95 0 0 ex jv_SH g [.ref (s0.heap.size + (0 : Int).toNat)] ex jv_SH (jv_qi Q) := by
  refine jv_M.of (by decide +kernel) rfl rfl (fun p e s m args below meth c C hml hr hlk hnm => ?_)
  replace C : jv_C p s m args c cX8_fills RX8 s0 b0 D ids := C
  show jv_V p l e (jv_rm 4 95 0 0) s m args below meth c 0 0 (jv_ZM below s0 D ids ex jv_SH (jv_qi Q) args s 0 0) s0 D ids ex jv_SH g 0 [some (.ref (s0.heap.size + (0 : Int).toNat))] []
  unfold wp_X8_fills at h
  refine jv_aload_n C dX8_fills_0 rfl ?_
  refine jv_getr C kf_X8_26 sS_0 rfl dX8_fills_1 ?_
  refine jv_aload_n C dX8_fills_4 rfl ?_
  refine jv_getr C kf_X8_19 sS_0 rfl dX8_fills_5 ?_
  refine jv_callVv C (M_X6_search h) kw_X8_152 sS_10 rfl rfl ⟨rfl, rfl⟩ (st := []) rfl rfl ⟨rfl, rfl⟩ dX8_fills_8 (fun g_8 h => ?_)
  refine jv_aload_n C dX8_fills_11 rfl ?_
  refine jv_getr C kf_X8_26 sS_0 rfl dX8_fills_12 ?_
  refine jv_callVi C (M_X6_foundCount h) kw_X8_163 sS_10 rfl rfl ⟨rfl, rfl⟩ (st := []) rfl rfl ⟨rfl, rfl⟩ dX8_fills_15 (fun r_15 g_15 h => ?_)
  exact jv_iret C hr hlk ⟨_, rfl, h⟩ dX8_fills_18 ⟨rfl, rfl⟩

def wp_X8_fillAt (a1 : Int) (Q : Int → jv_Mem → Prop) (g : jv_Mem) : Prop :=
  (wp_X8_needIndex a1 9 (fun (g_3 : jv_Mem) => (wp_X6_search (fun (g_14 : jv_Mem) => (wp_X6_bestWeight (fun (r_21 : Int) (g_21 : jv_Mem) => ((jv_r r_21) ∧ (¬ r_21 = ((-1)) → (wp_X6_bestLetter a1 (fun (r_47 : Int) (g_47 : jv_Mem) => Q r_47 g_47) g_21)) ∧ (r_21 = ((-1)) → False))) g_14)) g_3)) g)
set_option maxHeartbeats 4000000 in
set_option maxRecDepth 100000 in
theorem M_X8_fillAt {l : Launch} {s0 : State} {b0 : Addr} {D : va_G} {ids : Nat → ClassId} {ex : Option Nat} {g : jv_Mem} {a1 : Int} {Q : Int → jv_Mem → Prop} (h : wp_X8_fillAt a1 Q g) : jv_M l s0 b0 D ids yX8_fillAt cX8_fillAt 2 (some .int) 4 95 0 0 ex jv_SH g [.ref (s0.heap.size + (0 : Int).toNat), jv_i a1] ex jv_SH (jv_qi Q) := by
  refine jv_M.of (by decide +kernel) rfl rfl (fun p e s m args below meth c C hml hr hlk hnm => ?_)
  replace C : jv_C p s m args c cX8_fillAt RX8 s0 b0 D ids := C
  show jv_V p l e (jv_rm 4 95 0 0) s m args below meth c 0 0 (jv_ZM below s0 D ids ex jv_SH (jv_qi Q) args s 0 0) s0 D ids ex jv_SH g 0 [some (.ref (s0.heap.size + (0 : Int).toNat)), some (jv_i a1)] []
  unfold wp_X8_fillAt at h
  refine jv_iload_n C dX8_fillAt_0 rfl ?_
  refine jv_bipush C dX8_fillAt_1 (by decide +kernel) ?_
  refine jv_callSv C (M_X8_needIndex h) kw_X8_69 rfl ⟨rfl, rfl⟩ (st := []) rfl rfl ⟨rfl, rfl⟩ dX8_fillAt_3 (fun g_3 h => ?_)
  refine jv_aload_n C dX8_fillAt_6 rfl ?_
  refine jv_getr C kf_X8_26 sS_0 rfl dX8_fillAt_7 ?_
  refine jv_aload_n C dX8_fillAt_10 rfl ?_
  refine jv_getr C kf_X8_19 sS_0 rfl dX8_fillAt_11 ?_
  refine jv_callVv C (M_X6_search h) kw_X8_152 sS_10 rfl rfl ⟨rfl, rfl⟩ (st := []) rfl rfl ⟨rfl, rfl⟩ dX8_fillAt_14 (fun g_14 h => ?_)
  refine jv_aload_n C dX8_fillAt_17 rfl ?_
  refine jv_getr C kf_X8_26 sS_0 rfl dX8_fillAt_18 ?_
  refine jv_callVi C (M_X6_bestWeight h) kw_X8_156 sS_10 rfl rfl ⟨rfl, rfl⟩ (st := []) rfl rfl ⟨rfl, rfl⟩ dX8_fillAt_21 (fun r_21 g_21 h => ?_)
  refine jv_const C dX8_fillAt_24 ?_
  obtain ⟨hr_25, h1_25, h2_25⟩ := h
  refine jv_icmp_ne (tgt := 38) C hr_25 ⟨by decide, by decide⟩ dX8_fillAt_25 rfl (fun hc_25 => ?_) (fun hc_25 => ?_)
  · replace h := h1_25 hc_25
    refine jv_aload_n C dX8_fillAt_38 rfl ?_
    refine jv_getr C kf_X8_26 sS_0 rfl dX8_fillAt_39 ?_
    refine jv_aload_n C dX8_fillAt_42 rfl ?_
    refine jv_getr C kf_X8_19 sS_0 rfl dX8_fillAt_43 ?_
    refine jv_iload_n C dX8_fillAt_46 rfl ?_
    refine jv_callVi C (M_X6_bestLetter h) kw_X8_168 sS_10 rfl rfl ⟨rfl, rfl⟩ (st := []) rfl rfl ⟨rfl, rfl⟩ dX8_fillAt_47 (fun r_47 g_47 h => ?_)
    exact jv_iret C hr hlk ⟨_, rfl, h⟩ dX8_fillAt_50 ⟨rfl, rfl⟩
  · replace h := h2_25 hc_25
    exact h.elim

def wp_X8_lastUsed (a1 : Int) (Q : Int → jv_Mem → Prop) (g : jv_Mem) : Prop :=
  (wp_X0_count (fun (r_5 : Int) (g_5 : jv_Mem) => (wp_X8_needIndex a1 r_5 (fun (g_8 : jv_Mem) => (wp_X0_lastDay a1 (fun (r_16 : Int) (g_16 : jv_Mem) => Q r_16 g_16) g_8)) g_5)) g)
set_option maxHeartbeats 4000000 in
set_option maxRecDepth 100000 in
theorem M_X8_lastUsed {l : Launch} {s0 : State} {b0 : Addr} {D : va_G} {ids : Nat → ClassId} {ex : Option Nat} {g : jv_Mem} {a1 : Int} {Q : Int → jv_Mem → Prop} (h : wp_X8_lastUsed a1 Q g) : jv_M l s0 b0 D ids yX8_lastUsed cX8_lastUsed 2 (some .int) 2 42 0 0 ex jv_SH g [.ref (s0.heap.size + (0 : Int).toNat), jv_i a1] ex jv_SH (jv_qi Q) := by
  refine jv_M.of (by decide +kernel) rfl rfl (fun p e s m args below meth c C hml hr hlk hnm => ?_)
  replace C : jv_C p s m args c cX8_lastUsed RX8 s0 b0 D ids := C
  show jv_V p l e (jv_rm 2 42 0 0) s m args below meth c 0 0 (jv_ZM below s0 D ids ex jv_SH (jv_qi Q) args s 0 0) s0 D ids ex jv_SH g 0 [some (.ref (s0.heap.size + (0 : Int).toNat)), some (jv_i a1)] []
  unfold wp_X8_lastUsed at h
  refine jv_iload_n C dX8_lastUsed_0 rfl ?_
  refine jv_aload_n C dX8_lastUsed_1 rfl ?_
  refine jv_getr C kf_X8_33 sS_0 rfl dX8_lastUsed_2 ?_
  refine jv_callVi C (M_X0_count h) kw_X8_172 sS_14 rfl rfl ⟨rfl, rfl⟩ (st := [jv_i a1]) rfl rfl ⟨rfl, rfl⟩ dX8_lastUsed_5 (fun r_5 g_5 h => ?_)
  refine jv_callSv C (M_X8_needIndex h) kw_X8_69 rfl ⟨rfl, rfl⟩ (st := []) rfl rfl ⟨rfl, rfl⟩ dX8_lastUsed_8 (fun g_8 h => ?_)
  refine jv_aload_n C dX8_lastUsed_11 rfl ?_
  refine jv_getr C kf_X8_33 sS_0 rfl dX8_lastUsed_12 ?_
  refine jv_iload_n C dX8_lastUsed_15 rfl ?_
  refine jv_callVi C (M_X0_lastDay h) kw_X8_187 sS_14 rfl rfl ⟨rfl, rfl⟩ (st := []) rfl rfl ⟨rfl, rfl⟩ dX8_lastUsed_16 (fun r_16 g_16 h => ?_)
  exact jv_iret C hr hlk ⟨_, rfl, h⟩ dX8_lastUsed_19 ⟨rfl, rfl⟩

def wp_X8_pass (a1 : Int) (Q : Int → jv_Mem → Prop) (g : jv_Mem) : Prop :=
  (wp_X8_needRange a1 1 2000 (fun (g_5 : jv_Mem) => ((jv_r ((g_5 0 11) + a1)) ∧ (((g_5 0 11) + a1) ≤ 30000 → (∀ g_37 : jv_Mem, g_37 = jv_up g_5 0 11 ((g_5 0 11) + a1) → Q (g_37 0 11) g_37)) ∧ (30000 < ((g_5 0 11) + a1) → False))) g)
set_option maxHeartbeats 4000000 in
set_option maxRecDepth 100000 in
theorem M_X8_pass {l : Launch} {s0 : State} {b0 : Addr} {D : va_G} {ids : Nat → ClassId} {ex : Option Nat} {g : jv_Mem} {a1 : Int} {Q : Int → jv_Mem → Prop} (h : wp_X8_pass a1 Q g) : jv_M l s0 b0 D ids yX8_pass cX8_pass 2 (some .int) 1 22 0 0 ex jv_SH g [.ref (s0.heap.size + (0 : Int).toNat), jv_i a1] ex jv_SH (jv_qi Q) := by
  refine jv_M.of (by decide +kernel) rfl rfl (fun p e s m args below meth c C hml hr hlk hnm => ?_)
  replace C : jv_C p s m args c cX8_pass RX8 s0 b0 D ids := C
  show jv_V p l e (jv_rm 1 22 0 0) s m args below meth c 0 0 (jv_ZM below s0 D ids ex jv_SH (jv_qi Q) args s 0 0) s0 D ids ex jv_SH g 0 [some (.ref (s0.heap.size + (0 : Int).toNat)), some (jv_i a1)] []
  unfold wp_X8_pass at h
  refine jv_iload_n C dX8_pass_0 rfl ?_
  refine jv_const C dX8_pass_1 ?_
  refine jv_sipush C dX8_pass_2 (by decide +kernel) ?_
  refine jv_callSv C (M_X8_needRange h) kw_X8_107 rfl ⟨rfl, rfl⟩ (st := []) rfl rfl ⟨rfl, rfl⟩ dX8_pass_5 (fun g_5 h => ?_)
  refine jv_aload_n C dX8_pass_8 rfl ?_
  refine jv_geti C kf_X8_190 sS_0 rfl dX8_pass_9 ?_
  refine jv_iload_n C dX8_pass_12 rfl ?_
  refine jv_iadd C dX8_pass_13 ?_
  refine jv_sipush C dX8_pass_14 (by decide +kernel) ?_
  obtain ⟨hr_17, h1_17, h2_17⟩ := h
  refine jv_icmp_le (tgt := 30) C hr_17 ⟨by decide, by decide⟩ dX8_pass_17 rfl (fun hc_17 => ?_) (fun hc_17 => ?_)
  · replace h := h1_17 hc_17
    refine jv_aload_n C dX8_pass_30 rfl ?_
    refine jv_dup C rfl dX8_pass_31 ?_
    refine jv_geti C kf_X8_190 sS_0 rfl dX8_pass_32 ?_
    refine jv_iload_n C dX8_pass_35 rfl ?_
    refine jv_iadd C dX8_pass_36 ?_
    refine jv_puti C kf_X8_190 sS_0 rfl dX8_pass_37 (jv_gm (fun g_37 eg_37 => ?_))
    replace h := h g_37 eg_37
    refine jv_aload_n C dX8_pass_40 rfl ?_
    refine jv_geti C kf_X8_190 sS_0 rfl dX8_pass_41 ?_
    exact jv_iret C hr hlk ⟨_, rfl, h⟩ dX8_pass_44 ⟨rfl, rfl⟩
  · replace h := h2_17 hc_17
    exact h.elim

def wp_X8_now (Q : Int → jv_Mem → Prop) (g : jv_Mem) : Prop :=
  Q (g 0 11) g
set_option maxHeartbeats 4000000 in
set_option maxRecDepth 100000 in
theorem M_X8_now {l : Launch} {s0 : State} {b0 : Addr} {D : va_G} {ids : Nat → ClassId} {ex : Option Nat} {g : jv_Mem} {Q : Int → jv_Mem → Prop} (h : wp_X8_now Q g) : jv_M l s0 b0 D ids yX8_now cX8_now 1 (some .int) 0 0 0 0 ex jv_SH g [.ref (s0.heap.size + (0 : Int).toNat)] ex jv_SH (jv_qi Q) := by
  refine jv_M.of (by decide +kernel) rfl rfl (fun p e s m args below meth c C hml hr hlk hnm => ?_)
  replace C : jv_C p s m args c cX8_now RX8 s0 b0 D ids := C
  show jv_V p l e (jv_rm 0 0 0 0) s m args below meth c 0 0 (jv_ZM below s0 D ids ex jv_SH (jv_qi Q) args s 0 0) s0 D ids ex jv_SH g 0 [some (.ref (s0.heap.size + (0 : Int).toNat))] []
  unfold wp_X8_now at h
  refine jv_aload_n C dX8_now_0 rfl ?_
  refine jv_geti C kf_X8_190 sS_0 rfl dX8_now_1 ?_
  exact jv_iret C hr hlk ⟨_, rfl, h⟩ dX8_now_4 ⟨rfl, rfl⟩

def wp_X8_today (Q : Int → jv_Mem → Prop) (g : jv_Mem) : Prop :=
  Q (jv_div (g 0 11) 24) g
set_option maxHeartbeats 4000000 in
set_option maxRecDepth 100000 in
theorem M_X8_today {l : Launch} {s0 : State} {b0 : Addr} {D : va_G} {ids : Nat → ClassId} {ex : Option Nat} {g : jv_Mem} {Q : Int → jv_Mem → Prop} (h : wp_X8_today Q g) : jv_M l s0 b0 D ids yX8_today cX8_today 1 (some .int) 0 0 0 0 ex jv_SH g [.ref (s0.heap.size + (0 : Int).toNat)] ex jv_SH (jv_qi Q) := by
  refine jv_M.of (by decide +kernel) rfl rfl (fun p e s m args below meth c C hml hr hlk hnm => ?_)
  replace C : jv_C p s m args c cX8_today RX8 s0 b0 D ids := C
  show jv_V p l e (jv_rm 0 0 0 0) s m args below meth c 0 0 (jv_ZM below s0 D ids ex jv_SH (jv_qi Q) args s 0 0) s0 D ids ex jv_SH g 0 [some (.ref (s0.heap.size + (0 : Int).toNat))] []
  unfold wp_X8_today at h
  refine jv_aload_n C dX8_today_0 rfl ?_
  refine jv_geti C kf_X8_190 sS_0 rfl dX8_today_1 ?_
  refine jv_bipush C dX8_today_4 (by decide +kernel) ?_
  refine jv_idiv C (by decide +kernel) dX8_today_6 ?_
  exact jv_iret C hr hlk ⟨_, rfl, h⟩ dX8_today_7 ⟨rfl, rfl⟩

def wB_X8_mayPublishToday_42 (Q : Int → jv_Mem → Prop) (gj_42 : jv_Mem) : Prop :=
  Q 1 gj_42
def wp_X8_mayPublishToday (Q : Int → jv_Mem → Prop) (g : jv_Mem) : Prop :=
  ((jv_r (g 0 9)) ∧ ((g 0 9) < 20 → ((jv_r (g 0 9)) ∧ ((g 0 9) = 0 → wB_X8_mayPublishToday_42 Q g) ∧ (¬ (g 0 9) = 0 → (((0 : Int) ≤ (g 0 9) - 1 ∧ (g 0 9) - 1 < (20 : Int)) ∧ (wp_X3_hourOfAppearing (30 + 3 * ((g 0 9) - 1)) (fun (r_29 : Int) (g_29 : jv_Mem) => (wp_X8_today (fun (r_36 : Int) (g_36 : jv_Mem) => ((jv_r (jv_div r_29 24) ∧ jv_r r_36) ∧ (r_36 ≤ (jv_div r_29 24) → Q 0 g_36) ∧ ((jv_div r_29 24) < r_36 → wB_X8_mayPublishToday_42 Q g_36))) g_29)) g))))) ∧ (20 ≤ (g 0 9) → Q 0 g))
set_option maxHeartbeats 4000000 in
set_option maxRecDepth 100000 in
theorem M_X8_mayPublishToday {l : Launch} {s0 : State} {b0 : Addr} {D : va_G} {ids : Nat → ClassId} {ex : Option Nat} {g : jv_Mem} {Q : Int → jv_Mem → Prop} (h : wp_X8_mayPublishToday Q g) : jv_M l s0 b0 D ids yX8_mayPublishToday cX8_mayPublishToday 1 (some .boolean) 1 20 0 0 ex jv_SH g [.ref (s0.heap.size + (0 : Int).toNat)] ex jv_SH (jv_qi Q) := by
  refine jv_M.of (by decide +kernel) rfl rfl (fun p e s m args below meth c C hml hr hlk hnm => ?_)
  replace C : jv_C p s m args c cX8_mayPublishToday RX8 s0 b0 D ids := C
  show jv_V p l e (jv_rm 1 20 0 0) s m args below meth c 0 0 (jv_ZM below s0 D ids ex jv_SH (jv_qi Q) args s 0 0) s0 D ids ex jv_SH g 0 [some (.ref (s0.heap.size + (0 : Int).toNat))] []
  unfold wp_X8_mayPublishToday at h
  refine jv_aload_n C dX8_mayPublishToday_0 rfl ?_
  refine jv_geti C kf_X8_204 sS_0 rfl dX8_mayPublishToday_1 ?_
  refine jv_bipush C dX8_mayPublishToday_4 (by decide +kernel) ?_
  obtain ⟨hr_6, h1_6, h2_6⟩ := h
  refine jv_icmp_lt (tgt := 11) C hr_6 ⟨by decide, by decide⟩ dX8_mayPublishToday_6 rfl (fun hc_6 => ?_) (fun hc_6 => ?_)
  · replace h := h1_6 hc_6
    refine jv_aload_n C dX8_mayPublishToday_11 rfl ?_
    refine jv_geti C kf_X8_204 sS_0 rfl dX8_mayPublishToday_12 ?_
    have hJ42 : ∀ (gj_42 : jv_Mem), wB_X8_mayPublishToday_42 Q gj_42 → jv_V p l e (jv_rm 1 20 0 0) s m args below meth c 0 0 (jv_ZM below s0 D ids ex jv_SH (jv_qi Q) args s 0 0) s0 D ids ex jv_SH gj_42 42 [none] [] := by
      intro gj_42 h
      unfold wB_X8_mayPublishToday_42 at h
      refine jv_const C dX8_mayPublishToday_42 ?_
      refine jv_goto (tgt := 47) C dX8_mayPublishToday_43 rfl ?_
      exact jv_zret C hr hlk rfl ⟨_, rfl, h⟩ dX8_mayPublishToday_47 ⟨rfl, rfl⟩
    obtain ⟨hr_15, h1_15, h2_15⟩ := h
    refine jv_if_eq (tgt := 42) C hr_15 dX8_mayPublishToday_15 rfl (fun hc_15 => ?_) (fun hc_15 => ?_)
    · replace h := h1_15 hc_15
      exact jv_less (ls' := [none]) trivial (hJ42 _ h)
    · replace h := h2_15 hc_15
      refine jv_aload_n C dX8_mayPublishToday_18 rfl ?_
      refine jv_getr C kf_X8_39 sS_0 rfl dX8_mayPublishToday_19 ?_
      refine jv_aload_n C dX8_mayPublishToday_22 rfl ?_
      refine jv_geti C kf_X8_204 sS_0 rfl dX8_mayPublishToday_23 ?_
      refine jv_const C dX8_mayPublishToday_26 ?_
      refine jv_isub C dX8_mayPublishToday_27 ?_
      obtain ⟨hb_28, h⟩ := h
      refine jv_aaldP C hb_28 dX8_mayPublishToday_28 ?_
      refine jv_callVi C (M_X3_hourOfAppearing (jv_pz hb_28.1 hb_28.2) h) kw_X8_286 (jv_pz hb_28.1 hb_28.2).1 rfl rfl ⟨rfl, rfl⟩ (st := []) rfl rfl ⟨rfl, rfl⟩ dX8_mayPublishToday_29 (fun r_29 g_29 h => ?_)
      refine jv_bipush C dX8_mayPublishToday_32 (by decide +kernel) ?_
      refine jv_idiv C (by decide +kernel) dX8_mayPublishToday_34 ?_
      refine jv_aload_n C dX8_mayPublishToday_35 rfl ?_
      refine jv_callVi C (M_X8_today h) kw_X8_219 sS_0 rfl rfl ⟨rfl, rfl⟩ (st := [jv_i (jv_div r_29 24)]) rfl rfl ⟨rfl, rfl⟩ dX8_mayPublishToday_36 (fun r_36 g_36 h => ?_)
      obtain ⟨hr_39, h1_39, h2_39⟩ := h
      refine jv_icmp_ge (tgt := 46) C hr_39.1 hr_39.2 dX8_mayPublishToday_39 rfl (fun hc_39 => ?_) (fun hc_39 => ?_)
      · replace h := h1_39 hc_39
        refine jv_const C dX8_mayPublishToday_46 ?_
        exact jv_zret C hr hlk rfl ⟨_, rfl, h⟩ dX8_mayPublishToday_47 ⟨rfl, rfl⟩
      · replace h := h2_39 hc_39
        exact jv_less (ls' := [none]) trivial (hJ42 _ h)
  · replace h := h2_6 hc_6
    refine jv_const C dX8_mayPublishToday_9 ?_
    exact jv_zret C hr hlk rfl ⟨_, rfl, h⟩ dX8_mayPublishToday_10 ⟨rfl, rfl⟩

def wp_X8_findClues (Q : Int → jv_Mem → Prop) (g : jv_Mem) : Prop :=
  (wp_X6_search (fun (g_8 : jv_Mem) => (wp_X6_bestWeight (fun (r_15 : Int) (g_15 : jv_Mem) => ((jv_r r_15) ∧ (¬ r_15 = ((-1)) → jv_lp1 (fun (K26 : Int → jv_Mem → Prop) (x1_26 : Int) (gl_26 : jv_Mem) => ((jv_r x1_26) ∧ (6 ≤ x1_26 → Q 1 gl_26) ∧ (x1_26 < 6 → (wp_X6_bestWord x1_26 (fun (r_46 : Int) (g_46 : jv_Mem) => (wp_X8_today (fun (r_50 : Int) (g_50 : jv_Mem) => (wp_X0_choose x1_26 r_46 r_50 (fun (r_53 : Int) (g_53 : jv_Mem) => ((jv_r r_53) ∧ (¬ r_53 = 0 → (∀ v1_61 : Int, v1_61 = x1_26 + 1 → K26 v1_61 g_53)) ∧ (r_53 = 0 → Q 0 g_53))) g_50)) g_46)) gl_26)))) 0 g_15) ∧ (r_15 = ((-1)) → Q 0 g_15))) g_8)) g)
set_option maxHeartbeats 4000000 in
set_option maxRecDepth 100000 in
theorem M_X8_findClues {l : Launch} {s0 : State} {b0 : Addr} {D : va_G} {ids : Nat → ClassId} {ex : Option Nat} {g : jv_Mem} {Q : Int → jv_Mem → Prop} (h : wp_X8_findClues Q g) : jv_M l s0 b0 D ids yX8_findClues cX8_findClues 2 (some .boolean) 4 95 0 0 ex jv_SH g [.ref (s0.heap.size + (0 : Int).toNat)] ex jv_SH (jv_qi Q) := by
  refine jv_M.of (by decide +kernel) rfl rfl (fun p e s m args below meth c C hml hr hlk hnm => ?_)
  replace C : jv_C p s m args c cX8_findClues RX8 s0 b0 D ids := C
  show jv_V p l e (jv_rm 4 95 0 0) s m args below meth c 0 0 (jv_ZM below s0 D ids ex jv_SH (jv_qi Q) args s 0 0) s0 D ids ex jv_SH g 0 [some (.ref (s0.heap.size + (0 : Int).toNat)), none] []
  unfold wp_X8_findClues at h
  refine jv_aload_n C dX8_findClues_0 rfl ?_
  refine jv_getr C kf_X8_26 sS_0 rfl dX8_findClues_1 ?_
  refine jv_aload_n C dX8_findClues_4 rfl ?_
  refine jv_getr C kf_X8_19 sS_0 rfl dX8_findClues_5 ?_
  refine jv_callVv C (M_X6_search h) kw_X8_152 sS_10 rfl rfl ⟨rfl, rfl⟩ (st := []) rfl rfl ⟨rfl, rfl⟩ dX8_findClues_8 (fun g_8 h => ?_)
  refine jv_aload_n C dX8_findClues_11 rfl ?_
  refine jv_getr C kf_X8_26 sS_0 rfl dX8_findClues_12 ?_
  refine jv_callVi C (M_X6_bestWeight h) kw_X8_156 sS_10 rfl rfl ⟨rfl, rfl⟩ (st := []) rfl rfl ⟨rfl, rfl⟩ dX8_findClues_15 (fun r_15 g_15 h => ?_)
  refine jv_const C dX8_findClues_18 ?_
  obtain ⟨hr_19, h1_19, h2_19⟩ := h
  refine jv_icmp_ne (tgt := 24) C hr_19 ⟨by decide, by decide⟩ dX8_findClues_19 rfl (fun hc_19 => ?_) (fun hc_19 => ?_)
  · replace h := h1_19 hc_19
    refine jv_const C dX8_findClues_24 ?_
    refine jv_istore_n (ls' := [some (.ref (s0.heap.size + (0 : Int).toNat)), some (jv_i 0)]) C dX8_findClues_25 (Nat.lt_of_lt_of_eq (Nat.le_of_ble_eq_true rfl) hml) rfl ?_
    refine jv_less (ls' := [some (.ref (s0.heap.size + (0 : Int).toNat)), some (jv_i 0)]) ⟨rfl, ⟨rfl, trivial⟩⟩ ?_
    refine jv_lp1.use h (fun (x1_26 : Int) (gl_26 : jv_Mem) => jv_V p l e (jv_rm 4 95 0 0) s m args below meth c 0 0 (jv_ZM below s0 D ids ex jv_SH (jv_qi Q) args s 0 0) s0 D ids ex jv_SH gl_26 26 [some (.ref (s0.heap.size + (0 : Int).toNat)), some (jv_i x1_26)] []) ?_
    intro K26 hK26 x1_26 gl_26 h
    refine jv_iload_n C dX8_findClues_26 rfl ?_
    refine jv_bipush C dX8_findClues_27 (by decide +kernel) ?_
    obtain ⟨hr_29, h1_29, h2_29⟩ := h
    refine jv_icmp_ge (tgt := 67) C hr_29 ⟨by decide, by decide⟩ dX8_findClues_29 rfl (fun hc_29 => ?_) (fun hc_29 => ?_)
    · replace h := h1_29 hc_29
      refine jv_const C dX8_findClues_67 ?_
      exact jv_zret C hr hlk rfl ⟨_, rfl, h⟩ dX8_findClues_68 ⟨rfl, rfl⟩
    · replace h := h2_29 hc_29
      refine jv_aload_n C dX8_findClues_32 rfl ?_
      refine jv_getr C kf_X8_33 sS_0 rfl dX8_findClues_33 ?_
      refine jv_iload_n C dX8_findClues_36 rfl ?_
      refine jv_aload_n C dX8_findClues_37 rfl ?_
      refine jv_getr C kf_X8_26 sS_0 rfl dX8_findClues_38 ?_
      refine jv_aload_n C dX8_findClues_41 rfl ?_
      refine jv_getr C kf_X8_19 sS_0 rfl dX8_findClues_42 ?_
      refine jv_iload_n C dX8_findClues_45 rfl ?_
      refine jv_callVi C (M_X6_bestWord h) kw_X8_338 sS_10 rfl rfl ⟨rfl, rfl⟩ (st := [jv_i x1_26, .ref (s0.heap.size + (14 : Int).toNat)]) rfl rfl ⟨rfl, rfl⟩ dX8_findClues_46 (fun r_46 g_46 h => ?_)
      refine jv_aload_n C dX8_findClues_49 rfl ?_
      refine jv_callVi C (M_X8_today h) kw_X8_219 sS_0 rfl rfl ⟨rfl, rfl⟩ (st := [jv_i r_46, jv_i x1_26, .ref (s0.heap.size + (14 : Int).toNat)]) rfl rfl ⟨rfl, rfl⟩ dX8_findClues_50 (fun r_50 g_50 h => ?_)
      refine jv_callVi C (M_X0_choose h) kw_X8_341 sS_14 rfl rfl ⟨rfl, rfl⟩ (st := []) rfl rfl ⟨rfl, rfl⟩ dX8_findClues_53 (fun r_53 g_53 h => ?_)
      obtain ⟨hr_56, h1_56, h2_56⟩ := h
      refine jv_if_ne (tgt := 61) C hr_56 dX8_findClues_56 rfl (fun hc_56 => ?_) (fun hc_56 => ?_)
      · replace h := h1_56 hc_56
        refine jv_iincn C dX8_findClues_61 (Nat.lt_of_lt_of_eq (Nat.le_of_ble_eq_true rfl) hml) rfl (fun v1_61 ev1_61 => ?_)
        replace h := h v1_61 ev1_61
        refine jv_lset (ls' := [some (.ref (s0.heap.size + (0 : Int).toNat)), some (jv_i v1_61)]) rfl ?_
        refine jv_goto (tgt := 26) C dX8_findClues_64 rfl ?_
        exact jv_less (ls' := [some (.ref (s0.heap.size + (0 : Int).toNat)), some (jv_i v1_61)]) ⟨rfl, ⟨rfl, trivial⟩⟩ (hK26 _ _ h)
      · replace h := h2_56 hc_56
        refine jv_const C dX8_findClues_59 ?_
        exact jv_zret C hr hlk rfl ⟨_, rfl, h⟩ dX8_findClues_60 ⟨rfl, rfl⟩
  · replace h := h2_19 hc_19
    refine jv_const C dX8_findClues_22 ?_
    exact jv_zret C hr hlk rfl ⟨_, rfl, h⟩ dX8_findClues_23 ⟨rfl, rfl⟩

def wp_X8_clueOf (a1 : Int) (a2 : Int) (Q : Int → jv_Mem → Prop) (g : jv_Mem) : Prop :=
  (wp_X8_needIndex a1 (g 0 9) (fun (g_5 : jv_Mem) => (wp_X8_needIndex a2 6 (fun (g_11 : jv_Mem) => (((0 : Int) ≤ a1 ∧ a1 < (20 : Int)) ∧ (wp_X3_clueNumber (30 + 3 * a1) a2 (fun (r_21 : Int) (g_21 : jv_Mem) => Q r_21 g_21) g_11))) g_5)) g)
set_option maxHeartbeats 4000000 in
set_option maxRecDepth 100000 in
theorem M_X8_clueOf {l : Launch} {s0 : State} {b0 : Addr} {D : va_G} {ids : Nat → ClassId} {ex : Option Nat} {g : jv_Mem} {a1 : Int} {a2 : Int} {Q : Int → jv_Mem → Prop} (h : wp_X8_clueOf a1 a2 Q g) : jv_M l s0 b0 D ids yX8_clueOf cX8_clueOf 3 (some .int) 2 42 0 0 ex jv_SH g [.ref (s0.heap.size + (0 : Int).toNat), jv_i a1, jv_i a2] ex jv_SH (jv_qi Q) := by
  refine jv_M.of (by decide +kernel) rfl rfl (fun p e s m args below meth c C hml hr hlk hnm => ?_)
  replace C : jv_C p s m args c cX8_clueOf RX8 s0 b0 D ids := C
  show jv_V p l e (jv_rm 2 42 0 0) s m args below meth c 0 0 (jv_ZM below s0 D ids ex jv_SH (jv_qi Q) args s 0 0) s0 D ids ex jv_SH g 0 [some (.ref (s0.heap.size + (0 : Int).toNat)), some (jv_i a1), some (jv_i a2)] []
  unfold wp_X8_clueOf at h
  refine jv_iload_n C dX8_clueOf_0 rfl ?_
  refine jv_aload_n C dX8_clueOf_1 rfl ?_
  refine jv_geti C kf_X8_204 sS_0 rfl dX8_clueOf_2 ?_
  refine jv_callSv C (M_X8_needIndex h) kw_X8_69 rfl ⟨rfl, rfl⟩ (st := []) rfl rfl ⟨rfl, rfl⟩ dX8_clueOf_5 (fun g_5 h => ?_)
  refine jv_iload_n C dX8_clueOf_8 rfl ?_
  refine jv_bipush C dX8_clueOf_9 (by decide +kernel) ?_
  refine jv_callSv C (M_X8_needIndex h) kw_X8_69 rfl ⟨rfl, rfl⟩ (st := []) rfl rfl ⟨rfl, rfl⟩ dX8_clueOf_11 (fun g_11 h => ?_)
  refine jv_aload_n C dX8_clueOf_14 rfl ?_
  refine jv_getr C kf_X8_39 sS_0 rfl dX8_clueOf_15 ?_
  refine jv_iload_n C dX8_clueOf_18 rfl ?_
  obtain ⟨hb_19, h⟩ := h
  refine jv_aaldP C hb_19 dX8_clueOf_19 ?_
  refine jv_iload_n C dX8_clueOf_20 rfl ?_
  refine jv_callVi C (M_X3_clueNumber (jv_pz hb_19.1 hb_19.2) h) kw_X8_225 (jv_pz hb_19.1 hb_19.2).1 rfl rfl ⟨rfl, rfl⟩ (st := []) rfl rfl ⟨rfl, rfl⟩ dX8_clueOf_21 (fun r_21 g_21 h => ?_)
  exact jv_iret C hr hlk ⟨_, rfl, h⟩ dX8_clueOf_24 ⟨rfl, rfl⟩

def wp_X8_addSolver (a1 : Int) (a2 : Int) (Q : Int → jv_Mem → Prop) (g : jv_Mem) : Prop :=
  (wp_X8_needRange a1 ((-12)) 14 (fun (g_5 : jv_Mem) => (wp_X8_needRange a2 0 1000 (fun (g_13 : jv_Mem) => ((jv_r (g_13 0 10)) ∧ ((g_13 0 10) < 6 → (((0 : Int) ≤ g_13 0 10 ∧ g_13 0 10 < (6 : Int)) ∧ (wp_X4_join (90 + 6 * (g_13 0 10)) a1 a2 (fun (g_46 : jv_Mem) => (∀ g_56 : jv_Mem, g_56 = jv_up g_46 0 10 ((g_46 0 10) + 1) → Q ((g_56 0 10) - 1) g_56)) g_13))) ∧ (6 ≤ (g_13 0 10) → False))) g_5)) g)
set_option maxHeartbeats 4000000 in
set_option maxRecDepth 100000 in
theorem M_X8_addSolver {l : Launch} {s0 : State} {b0 : Addr} {D : va_G} {ids : Nat → ClassId} {ex : Option Nat} {g : jv_Mem} {a1 : Int} {a2 : Int} {Q : Int → jv_Mem → Prop} (h : wp_X8_addSolver a1 a2 Q g) : jv_M l s0 b0 D ids yX8_addSolver cX8_addSolver 3 (some .int) 3 67 0 0 ex jv_SH g [.ref (s0.heap.size + (0 : Int).toNat), jv_i a1, jv_i a2] ex jv_SH (jv_qi Q) := by
  refine jv_M.of (by decide +kernel) rfl rfl (fun p e s m args below meth c C hml hr hlk hnm => ?_)
  replace C : jv_C p s m args c cX8_addSolver RX8 s0 b0 D ids := C
  show jv_V p l e (jv_rm 3 67 0 0) s m args below meth c 0 0 (jv_ZM below s0 D ids ex jv_SH (jv_qi Q) args s 0 0) s0 D ids ex jv_SH g 0 [some (.ref (s0.heap.size + (0 : Int).toNat)), some (jv_i a1), some (jv_i a2)] []
  unfold wp_X8_addSolver at h
  refine jv_iload_n C dX8_addSolver_0 rfl ?_
  refine jv_bipush C dX8_addSolver_1 (by decide +kernel) ?_
  refine jv_bipush C dX8_addSolver_3 (by decide +kernel) ?_
  refine jv_callSv C (M_X8_needRange h) kw_X8_107 rfl ⟨rfl, rfl⟩ (st := []) rfl rfl ⟨rfl, rfl⟩ dX8_addSolver_5 (fun g_5 h => ?_)
  refine jv_iload_n C dX8_addSolver_8 rfl ?_
  refine jv_const C dX8_addSolver_9 ?_
  refine jv_sipush C dX8_addSolver_10 (by decide +kernel) ?_
  refine jv_callSv C (M_X8_needRange h) kw_X8_107 rfl ⟨rfl, rfl⟩ (st := []) rfl rfl ⟨rfl, rfl⟩ dX8_addSolver_13 (fun g_13 h => ?_)
  refine jv_aload_n C dX8_addSolver_16 rfl ?_
  refine jv_geti C kf_X8_228 sS_0 rfl dX8_addSolver_17 ?_
  refine jv_bipush C dX8_addSolver_20 (by decide +kernel) ?_
  obtain ⟨hr_22, h1_22, h2_22⟩ := h
  refine jv_icmp_lt (tgt := 35) C hr_22 ⟨by decide, by decide⟩ dX8_addSolver_22 rfl (fun hc_22 => ?_) (fun hc_22 => ?_)
  · replace h := h1_22 hc_22
    refine jv_aload_n C dX8_addSolver_35 rfl ?_
    refine jv_getr C kf_X8_45 sS_0 rfl dX8_addSolver_36 ?_
    refine jv_aload_n C dX8_addSolver_39 rfl ?_
    refine jv_geti C kf_X8_228 sS_0 rfl dX8_addSolver_40 ?_
    obtain ⟨hb_43, h⟩ := h
    refine jv_aaldS C hb_43 dX8_addSolver_43 ?_
    refine jv_iload_n C dX8_addSolver_44 rfl ?_
    refine jv_iload_n C dX8_addSolver_45 rfl ?_
    refine jv_callVv C (M_X4_join (jv_sv hb_43.1 hb_43.2) h) kw_X8_233 (jv_sv hb_43.1 hb_43.2).1 rfl rfl ⟨rfl, rfl⟩ (st := []) rfl rfl ⟨rfl, rfl⟩ dX8_addSolver_46 (fun g_46 h => ?_)
    refine jv_aload_n C dX8_addSolver_49 rfl ?_
    refine jv_dup C rfl dX8_addSolver_50 ?_
    refine jv_geti C kf_X8_228 sS_0 rfl dX8_addSolver_51 ?_
    refine jv_const C dX8_addSolver_54 ?_
    refine jv_iadd C dX8_addSolver_55 ?_
    refine jv_puti C kf_X8_228 sS_0 rfl dX8_addSolver_56 (jv_gm (fun g_56 eg_56 => ?_))
    replace h := h g_56 eg_56
    refine jv_aload_n C dX8_addSolver_59 rfl ?_
    refine jv_geti C kf_X8_228 sS_0 rfl dX8_addSolver_60 ?_
    refine jv_const C dX8_addSolver_63 ?_
    refine jv_isub C dX8_addSolver_64 ?_
    exact jv_iret C hr hlk ⟨_, rfl, h⟩ dX8_addSolver_65 ⟨rfl, rfl⟩
  · replace h := h2_22 hc_22
    exact h.elim

def wp_X8_needCellOf (a1 : Int) (a2 : Int) (a3 : Int) (Q : jv_Mem → Prop) (g : jv_Mem) : Prop :=
  (wp_X8_needIndex a1 (g 0 10) (fun (g_5 : jv_Mem) => (wp_X8_needIndex a2 (g_5 0 9) (fun (g_13 : jv_Mem) => (wp_X8_needIndex a3 9 (fun (g_19 : jv_Mem) => Q g_19) g_13)) g_5)) g)
set_option maxHeartbeats 4000000 in
set_option maxRecDepth 100000 in
theorem M_X8_needCellOf {l : Launch} {s0 : State} {b0 : Addr} {D : va_G} {ids : Nat → ClassId} {ex : Option Nat} {g : jv_Mem} {a1 : Int} {a2 : Int} {a3 : Int} {Q : jv_Mem → Prop} (h : wp_X8_needCellOf a1 a2 a3 Q g) : jv_M l s0 b0 D ids yX8_needCellOf cX8_needCellOf 4 none 2 42 0 0 ex jv_SH g [.ref (s0.heap.size + (0 : Int).toNat), jv_i a1, jv_i a2, jv_i a3] ex jv_SH (jv_qv Q) := by
  refine jv_M.of (by decide +kernel) rfl rfl (fun p e s m args below meth c C hml hr hlk hnm => ?_)
  replace C : jv_C p s m args c cX8_needCellOf RX8 s0 b0 D ids := C
  show jv_V p l e (jv_rm 2 42 0 0) s m args below meth c 0 0 (jv_ZM below s0 D ids ex jv_SH (jv_qv Q) args s 0 0) s0 D ids ex jv_SH g 0 [some (.ref (s0.heap.size + (0 : Int).toNat)), some (jv_i a1), some (jv_i a2), some (jv_i a3)] []
  unfold wp_X8_needCellOf at h
  refine jv_iload_n C dX8_needCellOf_0 rfl ?_
  refine jv_aload_n C dX8_needCellOf_1 rfl ?_
  refine jv_geti C kf_X8_228 sS_0 rfl dX8_needCellOf_2 ?_
  refine jv_callSv C (M_X8_needIndex h) kw_X8_69 rfl ⟨rfl, rfl⟩ (st := []) rfl rfl ⟨rfl, rfl⟩ dX8_needCellOf_5 (fun g_5 h => ?_)
  refine jv_iload_n C dX8_needCellOf_8 rfl ?_
  refine jv_aload_n C dX8_needCellOf_9 rfl ?_
  refine jv_geti C kf_X8_204 sS_0 rfl dX8_needCellOf_10 ?_
  refine jv_callSv C (M_X8_needIndex h) kw_X8_69 rfl ⟨rfl, rfl⟩ (st := []) rfl rfl ⟨rfl, rfl⟩ dX8_needCellOf_13 (fun g_13 h => ?_)
  refine jv_iload_n C dX8_needCellOf_16 rfl ?_
  refine jv_bipush C dX8_needCellOf_17 (by decide +kernel) ?_
  refine jv_callSv C (M_X8_needIndex h) kw_X8_69 rfl ⟨rfl, rfl⟩ (st := []) rfl rfl ⟨rfl, rfl⟩ dX8_needCellOf_19 (fun g_19 h => ?_)
  exact jv_vret C hr hlk ⟨rfl, h⟩ dX8_needCellOf_22 ⟨rfl, rfl⟩

def wp_X8_countIfSolved (a1 : Int) (a2 : Int) (Q : jv_Mem → Prop) (g : jv_Mem) : Prop :=
  (((0 : Int) ≤ a2 ∧ a2 < (20 : Int)) ∧ (((0 : Int) ≤ a1 ∧ a1 < (6 : Int)) ∧ (wp_X3_openCells (30 + 3 * a2) (fun (r_18 : Int) (g_18 : jv_Mem) => (wp_X3_hourOfAppearing (30 + 3 * a2) (fun (r_22 : Int) (g_22 : jv_Mem) => (wp_X2_countIfSolved (90 + 6 * a1 + 1) a2 r_18 r_22 (fun (g_25 : jv_Mem) => Q g_25) g_22)) g_18)) g)))
set_option maxHeartbeats 4000000 in
set_option maxRecDepth 100000 in
theorem M_X8_countIfSolved {l : Launch} {s0 : State} {b0 : Addr} {D : va_G} {ids : Nat → ClassId} {ex : Option Nat} {g : jv_Mem} {a1 : Int} {a2 : Int} {Q : jv_Mem → Prop} (h : wp_X8_countIfSolved a1 a2 Q g) : jv_M l s0 b0 D ids yX8_countIfSolved cX8_countIfSolved 4 none 3 74 0 0 ex jv_SH g [.ref (s0.heap.size + (0 : Int).toNat), jv_i a1, jv_i a2] ex jv_SH (jv_qv Q) := by
  refine jv_M.of (by decide +kernel) rfl rfl (fun p e s m args below meth c C hml hr hlk hnm => ?_)
  replace C : jv_C p s m args c cX8_countIfSolved RX8 s0 b0 D ids := C
  show jv_V p l e (jv_rm 3 74 0 0) s m args below meth c 0 0 (jv_ZM below s0 D ids ex jv_SH (jv_qv Q) args s 0 0) s0 D ids ex jv_SH g 0 [some (.ref (s0.heap.size + (0 : Int).toNat)), some (jv_i a1), some (jv_i a2), none] []
  unfold wp_X8_countIfSolved at h
  refine jv_aload_n C dX8_countIfSolved_0 rfl ?_
  refine jv_getr C kf_X8_39 sS_0 rfl dX8_countIfSolved_1 ?_
  refine jv_iload_n C dX8_countIfSolved_4 rfl ?_
  obtain ⟨hb_5, h⟩ := h
  refine jv_aaldP C hb_5 dX8_countIfSolved_5 ?_
  refine jv_astore_n (ls' := [some (.ref (s0.heap.size + (0 : Int).toNat)), some (jv_i a1), some (jv_i a2), some (.ref (s0.heap.size + (30 + 3 * a2 : Int).toNat))]) C dX8_countIfSolved_6 (Nat.lt_of_lt_of_eq (Nat.le_of_ble_eq_true rfl) hml) rfl ?_
  refine jv_aload_n C dX8_countIfSolved_7 rfl ?_
  refine jv_getr C kf_X8_45 sS_0 rfl dX8_countIfSolved_8 ?_
  refine jv_iload_n C dX8_countIfSolved_11 rfl ?_
  obtain ⟨hb_12, h⟩ := h
  refine jv_aaldS C hb_12 dX8_countIfSolved_12 ?_
  refine jv_callV C (M_X4_progress (jv_sv hb_12.1 hb_12.2)) kw_X8_282 (jv_sv hb_12.1 hb_12.2).1 rfl rfl ⟨rfl, rfl⟩ (st := []) rfl rfl ⟨rfl, rfl⟩ dX8_countIfSolved_13 ?_
  rintro _ g_13 ⟨rfl, rfl⟩
  show jv_V p l e (jv_rm 3 74 0 0) s m args below meth c 0 0 (jv_ZM below s0 D ids ex jv_SH (jv_qv Q) args s 0 0) s0 D ids ex jv_SH g 16 [some (.ref (s0.heap.size + (0 : Int).toNat)), some (jv_i a1), some (jv_i a2), some (.ref (s0.heap.size + (30 + 3 * a2 : Int).toNat))] [.ref (s0.heap.size + (90 + 6 * a1 + 1 : Int).toNat)]
  refine jv_iload_n C dX8_countIfSolved_16 rfl ?_
  refine jv_aload_n C dX8_countIfSolved_17 rfl ?_
  refine jv_callVi C (M_X3_openCells (jv_pz hb_5.1 hb_5.2) h) kw_X8_264 (jv_pz hb_5.1 hb_5.2).1 rfl rfl ⟨rfl, rfl⟩ (st := [jv_i a2, .ref (s0.heap.size + (90 + 6 * a1 + 1 : Int).toNat)]) rfl rfl ⟨rfl, rfl⟩ dX8_countIfSolved_18 (fun r_18 g_18 h => ?_)
  refine jv_aload_n C dX8_countIfSolved_21 rfl ?_
  refine jv_callVi C (M_X3_hourOfAppearing (jv_pz hb_5.1 hb_5.2) h) kw_X8_286 (jv_pz hb_5.1 hb_5.2).1 rfl rfl ⟨rfl, rfl⟩ (st := [jv_i r_18, jv_i a2, .ref (s0.heap.size + (90 + 6 * a1 + 1 : Int).toNat)]) rfl rfl ⟨rfl, rfl⟩ dX8_countIfSolved_22 (fun r_22 g_22 h => ?_)
  refine jv_callVv C (M_X2_countIfSolved (jv_sv hb_12.1 hb_12.2).2.2.2 h) kw_X8_351 (jv_sv hb_12.1 hb_12.2).2.2.2.1 rfl rfl ⟨rfl, rfl⟩ (st := []) rfl rfl ⟨rfl, rfl⟩ dX8_countIfSolved_25 (fun g_25 h => ?_)
  exact jv_vret C hr hlk ⟨rfl, h⟩ dX8_countIfSolved_28 ⟨rfl, rfl⟩

def wp_X8_becomeRight (a1 : Int) (a2 : Int) (a3 : Int) (Q : jv_Mem → Prop) (g : jv_Mem) : Prop :=
  (wp_X1_add a1 a2 a3 (g 0 11) (fun (g_11 : jv_Mem) => (((0 : Int) ≤ a1 ∧ a1 < (6 : Int)) ∧ (wp_X2_setRight (90 + 6 * a1 + 1) a2 a3 (g_11 0 11) (fun (g_29 : jv_Mem) => (wp_X8_countIfSolved a1 a2 (fun (g_35 : jv_Mem) => Q g_35) g_29)) g_11))) g)
set_option maxHeartbeats 4000000 in
set_option maxRecDepth 100000 in
theorem M_X8_becomeRight {l : Launch} {s0 : State} {b0 : Addr} {D : va_G} {ids : Nat → ClassId} {ex : Option Nat} {g : jv_Mem} {a1 : Int} {a2 : Int} {a3 : Int} {Q : jv_Mem → Prop} (h : wp_X8_becomeRight a1 a2 a3 Q g) : jv_M l s0 b0 D ids yX8_becomeRight cX8_becomeRight 4 none 4 97 0 0 ex jv_SH g [.ref (s0.heap.size + (0 : Int).toNat), jv_i a1, jv_i a2, jv_i a3] ex jv_SH (jv_qv Q) := by
  refine jv_M.of (by decide +kernel) rfl rfl (fun p e s m args below meth c C hml hr hlk hnm => ?_)
  replace C : jv_C p s m args c cX8_becomeRight RX8 s0 b0 D ids := C
  show jv_V p l e (jv_rm 4 97 0 0) s m args below meth c 0 0 (jv_ZM below s0 D ids ex jv_SH (jv_qv Q) args s 0 0) s0 D ids ex jv_SH g 0 [some (.ref (s0.heap.size + (0 : Int).toNat)), some (jv_i a1), some (jv_i a2), some (jv_i a3)] []
  unfold wp_X8_becomeRight at h
  refine jv_aload_n C dX8_becomeRight_0 rfl ?_
  refine jv_getr C kf_X8_52 sS_0 rfl dX8_becomeRight_1 ?_
  refine jv_iload_n C dX8_becomeRight_4 rfl ?_
  refine jv_iload_n C dX8_becomeRight_5 rfl ?_
  refine jv_iload_n C dX8_becomeRight_6 rfl ?_
  refine jv_aload_n C dX8_becomeRight_7 rfl ?_
  refine jv_geti C kf_X8_190 sS_0 rfl dX8_becomeRight_8 ?_
  refine jv_callVv C (M_X1_add h) kw_X8_270 sS_21 rfl rfl ⟨rfl, rfl⟩ (st := []) rfl rfl ⟨rfl, rfl⟩ dX8_becomeRight_11 (fun g_11 h => ?_)
  refine jv_aload_n C dX8_becomeRight_14 rfl ?_
  refine jv_getr C kf_X8_45 sS_0 rfl dX8_becomeRight_15 ?_
  refine jv_iload_n C dX8_becomeRight_18 rfl ?_
  obtain ⟨hb_19, h⟩ := h
  refine jv_aaldS C hb_19 dX8_becomeRight_19 ?_
  refine jv_callV C (M_X4_progress (jv_sv hb_19.1 hb_19.2)) kw_X8_282 (jv_sv hb_19.1 hb_19.2).1 rfl rfl ⟨rfl, rfl⟩ (st := []) rfl rfl ⟨rfl, rfl⟩ dX8_becomeRight_20 ?_
  rintro _ g_20 ⟨rfl, rfl⟩
  show jv_V p l e (jv_rm 4 97 0 0) s m args below meth c 0 0 (jv_ZM below s0 D ids ex jv_SH (jv_qv Q) args s 0 0) s0 D ids ex jv_SH g_11 23 [some (.ref (s0.heap.size + (0 : Int).toNat)), some (jv_i a1), some (jv_i a2), some (jv_i a3)] [.ref (s0.heap.size + (90 + 6 * a1 + 1 : Int).toNat)]
  refine jv_iload_n C dX8_becomeRight_23 rfl ?_
  refine jv_iload_n C dX8_becomeRight_24 rfl ?_
  refine jv_aload_n C dX8_becomeRight_25 rfl ?_
  refine jv_geti C kf_X8_190 sS_0 rfl dX8_becomeRight_26 ?_
  refine jv_callVv C (M_X2_setRight (jv_sv hb_19.1 hb_19.2).2.2.2 h) kw_X8_348 (jv_sv hb_19.1 hb_19.2).2.2.2.1 rfl rfl ⟨rfl, rfl⟩ (st := []) rfl rfl ⟨rfl, rfl⟩ dX8_becomeRight_29 (fun g_29 h => ?_)
  refine jv_aload_n C dX8_becomeRight_32 rfl ?_
  refine jv_iload_n C dX8_becomeRight_33 rfl ?_
  refine jv_iload_n C dX8_becomeRight_34 rfl ?_
  refine jv_callVv C (M_X8_countIfSolved h) kw_X8_279 sS_0 rfl rfl ⟨rfl, rfl⟩ (st := []) rfl rfl ⟨rfl, rfl⟩ dX8_becomeRight_35 (fun g_35 h => ?_)
  exact jv_vret C hr hlk ⟨rfl, h⟩ dX8_becomeRight_38 ⟨rfl, rfl⟩

def wp_X8_keptStreak (a1 : Int) (Q : Int → jv_Mem → Prop) (g : jv_Mem) : Prop :=
  (((0 : Int) ≤ a1 ∧ a1 < (6 : Int)) ∧ (wp_X2_daysInARow (90 + 6 * a1 + 1) (g 0 11) (fun (r_13 : Int) (g_13 : jv_Mem) => Q r_13 g_13) g))
set_option maxHeartbeats 4000000 in
set_option maxRecDepth 100000 in
theorem M_X8_keptStreak {l : Launch} {s0 : State} {b0 : Addr} {D : va_G} {ids : Nat → ClassId} {ex : Option Nat} {g : jv_Mem} {a1 : Int} {Q : Int → jv_Mem → Prop} (h : wp_X8_keptStreak a1 Q g) : jv_M l s0 b0 D ids yX8_keptStreak cX8_keptStreak 2 (some .int) 3 67 0 0 ex jv_SH g [.ref (s0.heap.size + (0 : Int).toNat), jv_i a1] ex jv_SH (jv_qi Q) := by
  refine jv_M.of (by decide +kernel) rfl rfl (fun p e s m args below meth c C hml hr hlk hnm => ?_)
  replace C : jv_C p s m args c cX8_keptStreak RX8 s0 b0 D ids := C
  show jv_V p l e (jv_rm 3 67 0 0) s m args below meth c 0 0 (jv_ZM below s0 D ids ex jv_SH (jv_qi Q) args s 0 0) s0 D ids ex jv_SH g 0 [some (.ref (s0.heap.size + (0 : Int).toNat)), some (jv_i a1)] []
  unfold wp_X8_keptStreak at h
  refine jv_aload_n C dX8_keptStreak_0 rfl ?_
  refine jv_getr C kf_X8_45 sS_0 rfl dX8_keptStreak_1 ?_
  refine jv_iload_n C dX8_keptStreak_4 rfl ?_
  obtain ⟨hb_5, h⟩ := h
  refine jv_aaldS C hb_5 dX8_keptStreak_5 ?_
  refine jv_callV C (M_X4_progress (jv_sv hb_5.1 hb_5.2)) kw_X8_282 (jv_sv hb_5.1 hb_5.2).1 rfl rfl ⟨rfl, rfl⟩ (st := []) rfl rfl ⟨rfl, rfl⟩ dX8_keptStreak_6 ?_
  rintro _ g_6 ⟨rfl, rfl⟩
  show jv_V p l e (jv_rm 3 67 0 0) s m args below meth c 0 0 (jv_ZM below s0 D ids ex jv_SH (jv_qi Q) args s 0 0) s0 D ids ex jv_SH g 9 [some (.ref (s0.heap.size + (0 : Int).toNat)), some (jv_i a1)] [.ref (s0.heap.size + (90 + 6 * a1 + 1 : Int).toNat)]
  refine jv_aload_n C dX8_keptStreak_9 rfl ?_
  refine jv_geti C kf_X8_190 sS_0 rfl dX8_keptStreak_10 ?_
  refine jv_callVi C (M_X2_daysInARow (jv_sv hb_5.1 hb_5.2).2.2.2 h) kw_X8_312 (jv_sv hb_5.1 hb_5.2).2.2.2.1 rfl rfl ⟨rfl, rfl⟩ (st := []) rfl rfl ⟨rfl, rfl⟩ dX8_keptStreak_13 (fun r_13 g_13 h => ?_)
  exact jv_iret C hr hlk ⟨_, rfl, h⟩ dX8_keptStreak_16 ⟨rfl, rfl⟩

def wp_X8_solvedAt (a1 : Int) (a2 : Int) (Q : Int → jv_Mem → Prop) (g : jv_Mem) : Prop :=
  (wp_X8_needIndex a1 (g 0 10) (fun (g_5 : jv_Mem) => (wp_X8_needIndex a2 (g_5 0 9) (fun (g_13 : jv_Mem) => (((0 : Int) ≤ a2 ∧ a2 < (20 : Int)) ∧ (((0 : Int) ≤ a1 ∧ a1 < (6 : Int)) ∧ (wp_X3_openCells (30 + 3 * a2) (fun (r_34 : Int) (g_34 : jv_Mem) => (wp_X3_hourOfAppearing (30 + 3 * a2) (fun (r_38 : Int) (g_38 : jv_Mem) => (wp_X2_solvedHour (90 + 6 * a1 + 1) a2 r_34 r_38 (fun (r_41 : Int) (g_41 : jv_Mem) => Q r_41 g_41) g_38)) g_34)) g_13)))) g_5)) g)
set_option maxHeartbeats 4000000 in
set_option maxRecDepth 100000 in
theorem M_X8_solvedAt {l : Launch} {s0 : State} {b0 : Addr} {D : va_G} {ids : Nat → ClassId} {ex : Option Nat} {g : jv_Mem} {a1 : Int} {a2 : Int} {Q : Int → jv_Mem → Prop} (h : wp_X8_solvedAt a1 a2 Q g) : jv_M l s0 b0 D ids yX8_solvedAt cX8_solvedAt 4 (some .int) 2 50 0 0 ex jv_SH g [.ref (s0.heap.size + (0 : Int).toNat), jv_i a1, jv_i a2] ex jv_SH (jv_qi Q) := by
  refine jv_M.of (by decide +kernel) rfl rfl (fun p e s m args below meth c C hml hr hlk hnm => ?_)
  replace C : jv_C p s m args c cX8_solvedAt RX8 s0 b0 D ids := C
  show jv_V p l e (jv_rm 2 50 0 0) s m args below meth c 0 0 (jv_ZM below s0 D ids ex jv_SH (jv_qi Q) args s 0 0) s0 D ids ex jv_SH g 0 [some (.ref (s0.heap.size + (0 : Int).toNat)), some (jv_i a1), some (jv_i a2), none] []
  unfold wp_X8_solvedAt at h
  refine jv_iload_n C dX8_solvedAt_0 rfl ?_
  refine jv_aload_n C dX8_solvedAt_1 rfl ?_
  refine jv_geti C kf_X8_228 sS_0 rfl dX8_solvedAt_2 ?_
  refine jv_callSv C (M_X8_needIndex h) kw_X8_69 rfl ⟨rfl, rfl⟩ (st := []) rfl rfl ⟨rfl, rfl⟩ dX8_solvedAt_5 (fun g_5 h => ?_)
  refine jv_iload_n C dX8_solvedAt_8 rfl ?_
  refine jv_aload_n C dX8_solvedAt_9 rfl ?_
  refine jv_geti C kf_X8_204 sS_0 rfl dX8_solvedAt_10 ?_
  refine jv_callSv C (M_X8_needIndex h) kw_X8_69 rfl ⟨rfl, rfl⟩ (st := []) rfl rfl ⟨rfl, rfl⟩ dX8_solvedAt_13 (fun g_13 h => ?_)
  refine jv_aload_n C dX8_solvedAt_16 rfl ?_
  refine jv_getr C kf_X8_39 sS_0 rfl dX8_solvedAt_17 ?_
  refine jv_iload_n C dX8_solvedAt_20 rfl ?_
  obtain ⟨hb_21, h⟩ := h
  refine jv_aaldP C hb_21 dX8_solvedAt_21 ?_
  refine jv_astore_n (ls' := [some (.ref (s0.heap.size + (0 : Int).toNat)), some (jv_i a1), some (jv_i a2), some (.ref (s0.heap.size + (30 + 3 * a2 : Int).toNat))]) C dX8_solvedAt_22 (Nat.lt_of_lt_of_eq (Nat.le_of_ble_eq_true rfl) hml) rfl ?_
  refine jv_aload_n C dX8_solvedAt_23 rfl ?_
  refine jv_getr C kf_X8_45 sS_0 rfl dX8_solvedAt_24 ?_
  refine jv_iload_n C dX8_solvedAt_27 rfl ?_
  obtain ⟨hb_28, h⟩ := h
  refine jv_aaldS C hb_28 dX8_solvedAt_28 ?_
  refine jv_callV C (M_X4_progress (jv_sv hb_28.1 hb_28.2)) kw_X8_282 (jv_sv hb_28.1 hb_28.2).1 rfl rfl ⟨rfl, rfl⟩ (st := []) rfl rfl ⟨rfl, rfl⟩ dX8_solvedAt_29 ?_
  rintro _ g_29 ⟨rfl, rfl⟩
  show jv_V p l e (jv_rm 2 50 0 0) s m args below meth c 0 0 (jv_ZM below s0 D ids ex jv_SH (jv_qi Q) args s 0 0) s0 D ids ex jv_SH g_13 32 [some (.ref (s0.heap.size + (0 : Int).toNat)), some (jv_i a1), some (jv_i a2), some (.ref (s0.heap.size + (30 + 3 * a2 : Int).toNat))] [.ref (s0.heap.size + (90 + 6 * a1 + 1 : Int).toNat)]
  refine jv_iload_n C dX8_solvedAt_32 rfl ?_
  refine jv_aload_n C dX8_solvedAt_33 rfl ?_
  refine jv_callVi C (M_X3_openCells (jv_pz hb_21.1 hb_21.2) h) kw_X8_264 (jv_pz hb_21.1 hb_21.2).1 rfl rfl ⟨rfl, rfl⟩ (st := [jv_i a2, .ref (s0.heap.size + (90 + 6 * a1 + 1 : Int).toNat)]) rfl rfl ⟨rfl, rfl⟩ dX8_solvedAt_34 (fun r_34 g_34 h => ?_)
  refine jv_aload_n C dX8_solvedAt_37 rfl ?_
  refine jv_callVi C (M_X3_hourOfAppearing (jv_pz hb_21.1 hb_21.2) h) kw_X8_286 (jv_pz hb_21.1 hb_21.2).1 rfl rfl ⟨rfl, rfl⟩ (st := [jv_i r_34, jv_i a2, .ref (s0.heap.size + (90 + 6 * a1 + 1 : Int).toNat)]) rfl rfl ⟨rfl, rfl⟩ dX8_solvedAt_38 (fun r_38 g_38 h => ?_)
  refine jv_callVi C (M_X2_solvedHour (jv_sv hb_28.1 hb_28.2).2.2.2 h) kw_X8_289 (jv_sv hb_28.1 hb_28.2).2.2.2.1 rfl rfl ⟨rfl, rfl⟩ (st := []) rfl rfl ⟨rfl, rfl⟩ dX8_solvedAt_41 (fun r_41 g_41 h => ?_)
  exact jv_iret C hr hlk ⟨_, rfl, h⟩ dX8_solvedAt_44 ⟨rfl, rfl⟩

def wp_X8_open (a1 : Int) (Q : Int → jv_Mem → Prop) (g : jv_Mem) : Prop :=
  (wp_X8_needIndex a1 (g 0 9) (fun (g_5 : jv_Mem) => (((0 : Int) ≤ a1 ∧ a1 < (20 : Int)) ∧ (wp_X3_openCells (30 + 3 * a1) (fun (r_14 : Int) (g_14 : jv_Mem) => Q r_14 g_14) g_5))) g)
set_option maxHeartbeats 4000000 in
set_option maxRecDepth 100000 in
theorem M_X8_open {l : Launch} {s0 : State} {b0 : Addr} {D : va_G} {ids : Nat → ClassId} {ex : Option Nat} {g : jv_Mem} {a1 : Int} {Q : Int → jv_Mem → Prop} (h : wp_X8_open a1 Q g) : jv_M l s0 b0 D ids yX8_open cX8_open 2 (some .int) 2 42 0 0 ex jv_SH g [.ref (s0.heap.size + (0 : Int).toNat), jv_i a1] ex jv_SH (jv_qi Q) := by
  refine jv_M.of (by decide +kernel) rfl rfl (fun p e s m args below meth c C hml hr hlk hnm => ?_)
  replace C : jv_C p s m args c cX8_open RX8 s0 b0 D ids := C
  show jv_V p l e (jv_rm 2 42 0 0) s m args below meth c 0 0 (jv_ZM below s0 D ids ex jv_SH (jv_qi Q) args s 0 0) s0 D ids ex jv_SH g 0 [some (.ref (s0.heap.size + (0 : Int).toNat)), some (jv_i a1)] []
  unfold wp_X8_open at h
  refine jv_iload_n C dX8_open_0 rfl ?_
  refine jv_aload_n C dX8_open_1 rfl ?_
  refine jv_geti C kf_X8_204 sS_0 rfl dX8_open_2 ?_
  refine jv_callSv C (M_X8_needIndex h) kw_X8_69 rfl ⟨rfl, rfl⟩ (st := []) rfl rfl ⟨rfl, rfl⟩ dX8_open_5 (fun g_5 h => ?_)
  refine jv_aload_n C dX8_open_8 rfl ?_
  refine jv_getr C kf_X8_39 sS_0 rfl dX8_open_9 ?_
  refine jv_iload_n C dX8_open_12 rfl ?_
  obtain ⟨hb_13, h⟩ := h
  refine jv_aaldP C hb_13 dX8_open_13 ?_
  refine jv_callVi C (M_X3_openCells (jv_pz hb_13.1 hb_13.2) h) kw_X8_264 (jv_pz hb_13.1 hb_13.2).1 rfl rfl ⟨rfl, rfl⟩ (st := []) rfl rfl ⟨rfl, rfl⟩ dX8_open_14 (fun r_14 g_14 h => ?_)
  exact jv_iret C hr hlk ⟨_, rfl, h⟩ dX8_open_17 ⟨rfl, rfl⟩

def wp_X8_coins (a1 : Int) (Q : Int → jv_Mem → Prop) (g : jv_Mem) : Prop :=
  (wp_X8_needIndex a1 (g 0 10) (fun (g_5 : jv_Mem) => (((0 : Int) ≤ a1 ∧ a1 < (6 : Int)) ∧ (wp_X4_purse (90 + 6 * a1) (fun (r_14 : Int) (g_14 : jv_Mem) => Q r_14 g_14) g_5))) g)
set_option maxHeartbeats 4000000 in
set_option maxRecDepth 100000 in
theorem M_X8_coins {l : Launch} {s0 : State} {b0 : Addr} {D : va_G} {ids : Nat → ClassId} {ex : Option Nat} {g : jv_Mem} {a1 : Int} {Q : Int → jv_Mem → Prop} (h : wp_X8_coins a1 Q g) : jv_M l s0 b0 D ids yX8_coins cX8_coins 2 (some .int) 2 42 0 0 ex jv_SH g [.ref (s0.heap.size + (0 : Int).toNat), jv_i a1] ex jv_SH (jv_qi Q) := by
  refine jv_M.of (by decide +kernel) rfl rfl (fun p e s m args below meth c C hml hr hlk hnm => ?_)
  replace C : jv_C p s m args c cX8_coins RX8 s0 b0 D ids := C
  show jv_V p l e (jv_rm 2 42 0 0) s m args below meth c 0 0 (jv_ZM below s0 D ids ex jv_SH (jv_qi Q) args s 0 0) s0 D ids ex jv_SH g 0 [some (.ref (s0.heap.size + (0 : Int).toNat)), some (jv_i a1)] []
  unfold wp_X8_coins at h
  refine jv_iload_n C dX8_coins_0 rfl ?_
  refine jv_aload_n C dX8_coins_1 rfl ?_
  refine jv_geti C kf_X8_228 sS_0 rfl dX8_coins_2 ?_
  refine jv_callSv C (M_X8_needIndex h) kw_X8_69 rfl ⟨rfl, rfl⟩ (st := []) rfl rfl ⟨rfl, rfl⟩ dX8_coins_5 (fun g_5 h => ?_)
  refine jv_aload_n C dX8_coins_8 rfl ?_
  refine jv_getr C kf_X8_45 sS_0 rfl dX8_coins_9 ?_
  refine jv_iload_n C dX8_coins_12 rfl ?_
  obtain ⟨hb_13, h⟩ := h
  refine jv_aaldS C hb_13 dX8_coins_13 ?_
  refine jv_callVi C (M_X4_purse (jv_sv hb_13.1 hb_13.2) h) kw_X8_293 (jv_sv hb_13.1 hb_13.2).1 rfl rfl ⟨rfl, rfl⟩ (st := []) rfl rfl ⟨rfl, rfl⟩ dX8_coins_14 (fun r_14 g_14 h => ?_)
  exact jv_iret C hr hlk ⟨_, rfl, h⟩ dX8_coins_17 ⟨rfl, rfl⟩

def wp_X8_streak (a1 : Int) (Q : Int → jv_Mem → Prop) (g : jv_Mem) : Prop :=
  (wp_X8_needIndex a1 (g 0 10) (fun (g_5 : jv_Mem) => (wp_X8_keptStreak a1 (fun (r_10 : Int) (g_10 : jv_Mem) => Q r_10 g_10) g_5)) g)
set_option maxHeartbeats 4000000 in
set_option maxRecDepth 100000 in
theorem M_X8_streak {l : Launch} {s0 : State} {b0 : Addr} {D : va_G} {ids : Nat → ClassId} {ex : Option Nat} {g : jv_Mem} {a1 : Int} {Q : Int → jv_Mem → Prop} (h : wp_X8_streak a1 Q g) : jv_M l s0 b0 D ids yX8_streak cX8_streak 2 (some .int) 4 88 0 0 ex jv_SH g [.ref (s0.heap.size + (0 : Int).toNat), jv_i a1] ex jv_SH (jv_qi Q) := by
  refine jv_M.of (by decide +kernel) rfl rfl (fun p e s m args below meth c C hml hr hlk hnm => ?_)
  replace C : jv_C p s m args c cX8_streak RX8 s0 b0 D ids := C
  show jv_V p l e (jv_rm 4 88 0 0) s m args below meth c 0 0 (jv_ZM below s0 D ids ex jv_SH (jv_qi Q) args s 0 0) s0 D ids ex jv_SH g 0 [some (.ref (s0.heap.size + (0 : Int).toNat)), some (jv_i a1)] []
  unfold wp_X8_streak at h
  refine jv_iload_n C dX8_streak_0 rfl ?_
  refine jv_aload_n C dX8_streak_1 rfl ?_
  refine jv_geti C kf_X8_228 sS_0 rfl dX8_streak_2 ?_
  refine jv_callSv C (M_X8_needIndex h) kw_X8_69 rfl ⟨rfl, rfl⟩ (st := []) rfl rfl ⟨rfl, rfl⟩ dX8_streak_5 (fun g_5 h => ?_)
  refine jv_aload_n C dX8_streak_8 rfl ?_
  refine jv_iload_n C dX8_streak_9 rfl ?_
  refine jv_callVi C (M_X8_keptStreak h) kw_X8_273 sS_0 rfl rfl ⟨rfl, rfl⟩ (st := []) rfl rfl ⟨rfl, rfl⟩ dX8_streak_10 (fun r_10 g_10 h => ?_)
  exact jv_iret C hr hlk ⟨_, rfl, h⟩ dX8_streak_13 ⟨rfl, rfl⟩

def wB_X8_replay_84 (Q : jv_Mem → Prop) (r_5 : Int) (gj_84 : jv_Mem) : Prop :=
  (((0 : Int) ≤ r_5 ∧ r_5 < (20 : Int)) ∧ (((0 : Int) ≤ r_5 ∧ r_5 < (20 : Int)) ∧ (wp_X3_hourOfAppearing (30 + 3 * r_5) (fun (r_101 : Int) (g_101 : jv_Mem) => (wp_X2_countIfSolved 26 r_5 (gj_84 29 r_5) r_101 (fun (g_104 : jv_Mem) => Q g_104) g_101)) gj_84)))
def wp_X8_replay (a1 : Int) (a2 : Int) (Q : jv_Mem → Prop) (g : jv_Mem) : Prop :=
  (wp_X1_puzzle a1 (fun (r_5 : Int) (g_5 : jv_Mem) => (wp_X1_solver a1 (fun (r_14 : Int) (g_14 : jv_Mem) => ((jv_r r_14) ∧ (¬ r_14 = ((-1)) → (wp_X1_solver a1 (fun (r_49 : Int) (g_49 : jv_Mem) => ((jv_r r_49 ∧ jv_r a2) ∧ (¬ r_49 = a2 → Q g_49) ∧ (r_49 = a2 → (wp_X1_part a1 (fun (r_66 : Int) (g_66 : jv_Mem) => (wp_X1_hourOf a1 (fun (r_74 : Int) (g_74 : jv_Mem) => (wp_X2_setRight 26 r_5 r_66 r_74 (fun (g_77 : jv_Mem) => wB_X8_replay_84 Q r_5 g_77) g_74)) g_66)) g_49)))) g_14)) ∧ (r_14 = ((-1)) → (((0 : Int) ≤ r_5 ∧ r_5 < (20 : Int)) ∧ (wp_X1_part a1 (fun (r_33 : Int) (g_33 : jv_Mem) => (wp_X8_cellsOf r_33 (fun (r_36 : Int) (g_36 : jv_Mem) => (((0 : Int) ≤ r_5 ∧ r_5 < (20 : Int)) ∧ (∀ g_40 : jv_Mem, g_40 = jv_up g_36 29 r_5 (jv_or (g_14 29 r_5) r_36) → wB_X8_replay_84 Q r_5 g_40))) g_33)) g_14))))) g_5)) g)
set_option maxHeartbeats 4000000 in
set_option maxRecDepth 100000 in
theorem M_X8_replay {l : Launch} {s0 : State} {b0 : Addr} {D : va_G} {ids : Nat → ClassId} {ex : Option Nat} {g : jv_Mem} {a1 : Int} {a2 : Int} {Q : jv_Mem → Prop} (h : wp_X8_replay a1 a2 Q g) : jv_M l s0 b0 D ids yX8_replay cX8_replay 4 none 3 74 0 0 ex jv_SH g [.ref (s0.heap.size + (0 : Int).toNat), jv_i a1, jv_i a2] ex jv_SH (jv_qv Q) := by
  refine jv_M.of (by decide +kernel) rfl rfl (fun p e s m args below meth c C hml hr hlk hnm => ?_)
  replace C : jv_C p s m args c cX8_replay RX8 s0 b0 D ids := C
  show jv_V p l e (jv_rm 3 74 0 0) s m args below meth c 0 0 (jv_ZM below s0 D ids ex jv_SH (jv_qv Q) args s 0 0) s0 D ids ex jv_SH g 0 [some (.ref (s0.heap.size + (0 : Int).toNat)), some (jv_i a1), some (jv_i a2), none] []
  unfold wp_X8_replay at h
  refine jv_aload_n C dX8_replay_0 rfl ?_
  refine jv_getr C kf_X8_52 sS_0 rfl dX8_replay_1 ?_
  refine jv_iload_n C dX8_replay_4 rfl ?_
  refine jv_callVi C (M_X1_puzzle h) kw_X8_353 sS_21 rfl rfl ⟨rfl, rfl⟩ (st := []) rfl rfl ⟨rfl, rfl⟩ dX8_replay_5 (fun r_5 g_5 h => ?_)
  refine jv_istore_n (ls' := [some (.ref (s0.heap.size + (0 : Int).toNat)), some (jv_i a1), some (jv_i a2), some (jv_i r_5)]) C dX8_replay_8 (Nat.lt_of_lt_of_eq (Nat.le_of_ble_eq_true rfl) hml) rfl ?_
  refine jv_aload_n C dX8_replay_9 rfl ?_
  refine jv_getr C kf_X8_52 sS_0 rfl dX8_replay_10 ?_
  refine jv_iload_n C dX8_replay_13 rfl ?_
  refine jv_callVi C (M_X1_solver h) kw_X8_356 sS_21 rfl rfl ⟨rfl, rfl⟩ (st := []) rfl rfl ⟨rfl, rfl⟩ dX8_replay_14 (fun r_14 g_14 h => ?_)
  refine jv_const C dX8_replay_17 ?_
  have hJ84 : ∀ (gj_84 : jv_Mem), wB_X8_replay_84 Q r_5 gj_84 → jv_V p l e (jv_rm 3 74 0 0) s m args below meth c 0 0 (jv_ZM below s0 D ids ex jv_SH (jv_qv Q) args s 0 0) s0 D ids ex jv_SH gj_84 84 [some (.ref (s0.heap.size + (0 : Int).toNat)), none, none, some (jv_i r_5)] [] := by
    intro gj_84 h
    unfold wB_X8_replay_84 at h
    refine jv_aload_n C dX8_replay_84 rfl ?_
    refine jv_getr C kf_X8_59 sS_0 rfl dX8_replay_85 ?_
    refine jv_iload_n C dX8_replay_88 rfl ?_
    refine jv_aload_n C dX8_replay_89 rfl ?_
    refine jv_getr C kf_X8_63 sS_0 rfl dX8_replay_90 ?_
    refine jv_iload_n C dX8_replay_93 rfl ?_
    obtain ⟨hb_94, h⟩ := h
    refine jv_iald C sS_29 rfl hb_94 dX8_replay_94 ?_
    refine jv_aload_n C dX8_replay_95 rfl ?_
    refine jv_getr C kf_X8_39 sS_0 rfl dX8_replay_96 ?_
    refine jv_iload_n C dX8_replay_99 rfl ?_
    obtain ⟨hb_100, h⟩ := h
    refine jv_aaldP C hb_100 dX8_replay_100 ?_
    refine jv_callVi C (M_X3_hourOfAppearing (jv_pz hb_100.1 hb_100.2) h) kw_X8_286 (jv_pz hb_100.1 hb_100.2).1 rfl rfl ⟨rfl, rfl⟩ (st := [jv_i (gj_84 29 r_5), jv_i r_5, .ref (s0.heap.size + (26 : Int).toNat)]) rfl rfl ⟨rfl, rfl⟩ dX8_replay_101 (fun r_101 g_101 h => ?_)
    refine jv_callVv C (M_X2_countIfSolved jv_pg26 h) kw_X8_351 jv_pg26.1 rfl rfl ⟨rfl, rfl⟩ (st := []) rfl rfl ⟨rfl, rfl⟩ dX8_replay_104 (fun g_104 h => ?_)
    exact jv_vret C hr hlk ⟨rfl, h⟩ dX8_replay_107 ⟨rfl, rfl⟩
  obtain ⟨hr_18, h1_18, h2_18⟩ := h
  refine jv_icmp_ne (tgt := 44) C hr_18 ⟨by decide, by decide⟩ dX8_replay_18 rfl (fun hc_18 => ?_) (fun hc_18 => ?_)
  · replace h := h1_18 hc_18
    refine jv_aload_n C dX8_replay_44 rfl ?_
    refine jv_getr C kf_X8_52 sS_0 rfl dX8_replay_45 ?_
    refine jv_iload_n C dX8_replay_48 rfl ?_
    refine jv_callVi C (M_X1_solver h) kw_X8_356 sS_21 rfl rfl ⟨rfl, rfl⟩ (st := []) rfl rfl ⟨rfl, rfl⟩ dX8_replay_49 (fun r_49 g_49 h => ?_)
    refine jv_iload_n C dX8_replay_52 rfl ?_
    obtain ⟨hr_53, h1_53, h2_53⟩ := h
    refine jv_icmp_ne (tgt := 83) C hr_53.1 hr_53.2 dX8_replay_53 rfl (fun hc_53 => ?_) (fun hc_53 => ?_)
    · replace h := h1_53 hc_53
      exact jv_vret C hr hlk ⟨rfl, h⟩ dX8_replay_83 ⟨rfl, rfl⟩
    · replace h := h2_53 hc_53
      refine jv_aload_n C dX8_replay_56 rfl ?_
      refine jv_getr C kf_X8_59 sS_0 rfl dX8_replay_57 ?_
      refine jv_iload_n C dX8_replay_60 rfl ?_
      refine jv_aload_n C dX8_replay_61 rfl ?_
      refine jv_getr C kf_X8_52 sS_0 rfl dX8_replay_62 ?_
      refine jv_iload_n C dX8_replay_65 rfl ?_
      refine jv_callVi C (M_X1_part h) kw_X8_359 sS_21 rfl rfl ⟨rfl, rfl⟩ (st := [jv_i r_5, .ref (s0.heap.size + (26 : Int).toNat)]) rfl rfl ⟨rfl, rfl⟩ dX8_replay_66 (fun r_66 g_66 h => ?_)
      refine jv_aload_n C dX8_replay_69 rfl ?_
      refine jv_getr C kf_X8_52 sS_0 rfl dX8_replay_70 ?_
      refine jv_iload_n C dX8_replay_73 rfl ?_
      refine jv_callVi C (M_X1_hourOf h) kw_X8_362 sS_21 rfl rfl ⟨rfl, rfl⟩ (st := [jv_i r_66, jv_i r_5, .ref (s0.heap.size + (26 : Int).toNat)]) rfl rfl ⟨rfl, rfl⟩ dX8_replay_74 (fun r_74 g_74 h => ?_)
      refine jv_callVv C (M_X2_setRight jv_pg26 h) kw_X8_348 jv_pg26.1 rfl rfl ⟨rfl, rfl⟩ (st := []) rfl rfl ⟨rfl, rfl⟩ dX8_replay_77 (fun g_77 h => ?_)
      refine jv_goto (tgt := 84) C dX8_replay_80 rfl ?_
      exact jv_less (ls' := [some (.ref (s0.heap.size + (0 : Int).toNat)), none, none, some (jv_i r_5)]) ⟨rfl, ⟨rfl, trivial⟩⟩ (hJ84 _ h)
  · replace h := h2_18 hc_18
    refine jv_aload_n C dX8_replay_21 rfl ?_
    refine jv_getr C kf_X8_63 sS_0 rfl dX8_replay_22 ?_
    refine jv_iload_n C dX8_replay_25 rfl ?_
    refine jv_dup2 C rfl rfl dX8_replay_26 ?_
    obtain ⟨hb_27, h⟩ := h
    refine jv_iald C sS_29 rfl hb_27 dX8_replay_27 ?_
    refine jv_aload_n C dX8_replay_28 rfl ?_
    refine jv_getr C kf_X8_52 sS_0 rfl dX8_replay_29 ?_
    refine jv_iload_n C dX8_replay_32 rfl ?_
    refine jv_callVi C (M_X1_part h) kw_X8_359 sS_21 rfl rfl ⟨rfl, rfl⟩ (st := [jv_i (g_14 29 r_5), jv_i r_5, .ref (s0.heap.size + (29 : Int).toNat)]) rfl rfl ⟨rfl, rfl⟩ dX8_replay_33 (fun r_33 g_33 h => ?_)
    refine jv_callSi C (M_X8_cellsOf h) kw_X8_261 rfl ⟨rfl, rfl⟩ (st := [jv_i (g_14 29 r_5), jv_i r_5, .ref (s0.heap.size + (29 : Int).toNat)]) rfl rfl ⟨rfl, rfl⟩ dX8_replay_36 (fun r_36 g_36 h => ?_)
    refine jv_ior C dX8_replay_39 ?_
    obtain ⟨hb_40, h⟩ := h
    refine jv_iast C sS_29 rfl hb_40 dX8_replay_40 (jv_gm (fun g_40 eg_40 => ?_))
    replace h := h g_40 eg_40
    refine jv_goto (tgt := 84) C dX8_replay_41 rfl ?_
    exact jv_less (ls' := [some (.ref (s0.heap.size + (0 : Int).toNat)), none, none, some (jv_i r_5)]) ⟨rfl, ⟨rfl, trivial⟩⟩ (hJ84 _ h)

def wp_X8_streakAnew (a1 : Int) (Q : Int → jv_Mem → Prop) (g : jv_Mem) : Prop :=
  (wp_X8_needIndex a1 (g 0 10) (fun (g_5 : jv_Mem) => (((0 : Int) ≤ a1 ∧ a1 < (6 : Int)) ∧ (wp_X2_hoursAhead (90 + 6 * a1 + 1) (fun (r_21 : Int) (g_21 : jv_Mem) => (wp_X2_begin 26 r_21 (fun (g_24 : jv_Mem) => (∀ g_32 : jv_Mem, g_32 = jv_fill g_24 29 20 0 → jv_lp1 (fun (K37 : Int → jv_Mem → Prop) (x2_37 : Int) (gl_37 : jv_Mem) => (wp_X1_count (fun (r_42 : Int) (g_42 : jv_Mem) => ((jv_r x2_37 ∧ jv_r r_42) ∧ (r_42 ≤ x2_37 → (wp_X2_daysInARow 26 (g_42 0 11) (fun (r_68 : Int) (g_68 : jv_Mem) => Q r_68 g_68) g_42)) ∧ (x2_37 < r_42 → (wp_X8_replay x2_37 a1 (fun (g_51 : jv_Mem) => (∀ v2_54 : Int, v2_54 = x2_37 + 1 → K37 v2_54 g_51)) g_42)))) gl_37)) 0 g_32)) g_21)) g_5))) g)
set_option maxHeartbeats 4000000 in
set_option maxRecDepth 100000 in
theorem M_X8_streakAnew {l : Launch} {s0 : State} {b0 : Addr} {D : va_G} {ids : Nat → ClassId} {ex : Option Nat} {g : jv_Mem} {a1 : Int} {Q : Int → jv_Mem → Prop} (h : wp_X8_streakAnew a1 Q g) : jv_M l s0 b0 D ids yX8_streakAnew cX8_streakAnew 3 (some .int) 4 97 0 0 ex jv_SH g [.ref (s0.heap.size + (0 : Int).toNat), jv_i a1] ex jv_SH (jv_qi Q) := by
  refine jv_M.of (by decide +kernel) rfl rfl (fun p e s m args below meth c C hml hr hlk hnm => ?_)
  replace C : jv_C p s m args c cX8_streakAnew RX8 s0 b0 D ids := C
  show jv_V p l e (jv_rm 4 97 0 0) s m args below meth c 0 0 (jv_ZM below s0 D ids ex jv_SH (jv_qi Q) args s 0 0) s0 D ids ex jv_SH g 0 [some (.ref (s0.heap.size + (0 : Int).toNat)), some (jv_i a1), none] []
  unfold wp_X8_streakAnew at h
  refine jv_iload_n C dX8_streakAnew_0 rfl ?_
  refine jv_aload_n C dX8_streakAnew_1 rfl ?_
  refine jv_geti C kf_X8_228 sS_0 rfl dX8_streakAnew_2 ?_
  refine jv_callSv C (M_X8_needIndex h) kw_X8_69 rfl ⟨rfl, rfl⟩ (st := []) rfl rfl ⟨rfl, rfl⟩ dX8_streakAnew_5 (fun g_5 h => ?_)
  refine jv_aload_n C dX8_streakAnew_8 rfl ?_
  refine jv_getr C kf_X8_59 sS_0 rfl dX8_streakAnew_9 ?_
  refine jv_aload_n C dX8_streakAnew_12 rfl ?_
  refine jv_getr C kf_X8_45 sS_0 rfl dX8_streakAnew_13 ?_
  refine jv_iload_n C dX8_streakAnew_16 rfl ?_
  obtain ⟨hb_17, h⟩ := h
  refine jv_aaldS C hb_17 dX8_streakAnew_17 ?_
  refine jv_callV C (M_X4_progress (jv_sv hb_17.1 hb_17.2)) kw_X8_282 (jv_sv hb_17.1 hb_17.2).1 rfl rfl ⟨rfl, rfl⟩ (st := [.ref (s0.heap.size + (26 : Int).toNat)]) rfl rfl ⟨rfl, rfl⟩ dX8_streakAnew_18 ?_
  rintro _ g_18 ⟨rfl, rfl⟩
  show jv_V p l e (jv_rm 4 97 0 0) s m args below meth c 0 0 (jv_ZM below s0 D ids ex jv_SH (jv_qi Q) args s 0 0) s0 D ids ex jv_SH g_5 21 [some (.ref (s0.heap.size + (0 : Int).toNat)), some (jv_i a1), none] [.ref (s0.heap.size + (90 + 6 * a1 + 1 : Int).toNat), .ref (s0.heap.size + (26 : Int).toNat)]
  refine jv_callVi C (M_X2_hoursAhead (jv_sv hb_17.1 hb_17.2).2.2.2 h) kw_X8_296 (jv_sv hb_17.1 hb_17.2).2.2.2.1 rfl rfl ⟨rfl, rfl⟩ (st := [.ref (s0.heap.size + (26 : Int).toNat)]) rfl rfl ⟨rfl, rfl⟩ dX8_streakAnew_21 (fun r_21 g_21 h => ?_)
  refine jv_callVv C (M_X2_begin jv_pg26 h) kw_X8_299 jv_pg26.1 rfl rfl ⟨rfl, rfl⟩ (st := []) rfl rfl ⟨rfl, rfl⟩ dX8_streakAnew_24 (fun g_24 h => ?_)
  refine jv_aload_n C dX8_streakAnew_27 rfl ?_
  refine jv_getr C kf_X8_63 sS_0 rfl dX8_streakAnew_28 ?_
  refine jv_const C dX8_streakAnew_31 ?_
  refine jv_callSv C (Q := fun g' => g' = jv_fill g_24 29 20 0) (M_J7_fill sS_29 rfl rfl) kw_X8_302 rfl ⟨rfl, rfl⟩ (st := []) rfl rfl ⟨rfl, rfl⟩ dX8_streakAnew_32 (fun g_32 eg_32 => ?_)
  replace h := h g_32 eg_32
  refine jv_const C dX8_streakAnew_35 ?_
  refine jv_istore_n (ls' := [some (.ref (s0.heap.size + (0 : Int).toNat)), some (jv_i a1), some (jv_i 0)]) C dX8_streakAnew_36 (Nat.lt_of_lt_of_eq (Nat.le_of_ble_eq_true rfl) hml) rfl ?_
  refine jv_less (ls' := [some (.ref (s0.heap.size + (0 : Int).toNat)), some (jv_i a1), some (jv_i 0)]) ⟨rfl, ⟨rfl, ⟨rfl, trivial⟩⟩⟩ ?_
  refine jv_lp1.use h (fun (x2_37 : Int) (gl_37 : jv_Mem) => jv_V p l e (jv_rm 4 97 0 0) s m args below meth c 0 0 (jv_ZM below s0 D ids ex jv_SH (jv_qi Q) args s 0 0) s0 D ids ex jv_SH gl_37 37 [some (.ref (s0.heap.size + (0 : Int).toNat)), some (jv_i a1), some (jv_i x2_37)] []) ?_
  intro K37 hK37 x2_37 gl_37 h
  refine jv_iload_n C dX8_streakAnew_37 rfl ?_
  refine jv_aload_n C dX8_streakAnew_38 rfl ?_
  refine jv_getr C kf_X8_52 sS_0 rfl dX8_streakAnew_39 ?_
  refine jv_callVi C (M_X1_count h) kw_X8_308 sS_21 rfl rfl ⟨rfl, rfl⟩ (st := [jv_i x2_37]) rfl rfl ⟨rfl, rfl⟩ dX8_streakAnew_42 (fun r_42 g_42 h => ?_)
  obtain ⟨hr_45, h1_45, h2_45⟩ := h
  refine jv_icmp_ge (tgt := 60) C hr_45.1 hr_45.2 dX8_streakAnew_45 rfl (fun hc_45 => ?_) (fun hc_45 => ?_)
  · replace h := h1_45 hc_45
    refine jv_aload_n C dX8_streakAnew_60 rfl ?_
    refine jv_getr C kf_X8_59 sS_0 rfl dX8_streakAnew_61 ?_
    refine jv_aload_n C dX8_streakAnew_64 rfl ?_
    refine jv_geti C kf_X8_190 sS_0 rfl dX8_streakAnew_65 ?_
    refine jv_callVi C (M_X2_daysInARow jv_pg26 h) kw_X8_312 jv_pg26.1 rfl rfl ⟨rfl, rfl⟩ (st := []) rfl rfl ⟨rfl, rfl⟩ dX8_streakAnew_68 (fun r_68 g_68 h => ?_)
    exact jv_iret C hr hlk ⟨_, rfl, h⟩ dX8_streakAnew_71 ⟨rfl, rfl⟩
  · replace h := h2_45 hc_45
    refine jv_aload_n C dX8_streakAnew_48 rfl ?_
    refine jv_iload_n C dX8_streakAnew_49 rfl ?_
    refine jv_iload_n C dX8_streakAnew_50 rfl ?_
    refine jv_callVv C (M_X8_replay h) kw_X8_309 sS_0 rfl rfl ⟨rfl, rfl⟩ (st := []) rfl rfl ⟨rfl, rfl⟩ dX8_streakAnew_51 (fun g_51 h => ?_)
    refine jv_iincn C dX8_streakAnew_54 (Nat.lt_of_lt_of_eq (Nat.le_of_ble_eq_true rfl) hml) rfl (fun v2_54 ev2_54 => ?_)
    replace h := h v2_54 ev2_54
    refine jv_lset (ls' := [some (.ref (s0.heap.size + (0 : Int).toNat)), some (jv_i a1), some (jv_i v2_54)]) rfl ?_
    refine jv_goto (tgt := 37) C dX8_streakAnew_57 rfl ?_
    exact jv_less (ls' := [some (.ref (s0.heap.size + (0 : Int).toNat)), some (jv_i a1), some (jv_i v2_54)]) ⟨rfl, ⟨rfl, ⟨rfl, trivial⟩⟩⟩ (hK37 _ _ h)

def wp_X8_isAhead (a1 : Int) (a2 : Int) (Q : Int → jv_Mem → Prop) (g : jv_Mem) : Prop :=
  (wp_X8_keptStreak a1 (fun (r_2 : Int) (g_2 : jv_Mem) => (wp_X8_keptStreak a2 (fun (r_8 : Int) (g_8 : jv_Mem) => ((jv_r r_2 ∧ jv_r r_8) ∧ (r_2 = r_8 → (((0 : Int) ≤ a1 ∧ a1 < (6 : Int)) ∧ (wp_X4_purse (90 + 6 * a1) (fun (r_37 : Int) (g_37 : jv_Mem) => (((0 : Int) ≤ a2 ∧ a2 < (6 : Int)) ∧ (wp_X4_purse (90 + 6 * a2) (fun (r_48 : Int) (g_48 : jv_Mem) => ((jv_r r_37 ∧ jv_r r_48) ∧ (r_37 = r_48 → ((jv_r a1 ∧ jv_r a2) ∧ (a2 ≤ a1 → Q 0 g_48) ∧ (a1 < a2 → Q 1 g_48))) ∧ (¬ r_37 = r_48 → ((jv_r r_37 ∧ jv_r r_48) ∧ (r_37 ≤ r_48 → Q 0 g_48) ∧ (r_48 < r_37 → Q 1 g_48))))) g_37))) g_8))) ∧ (¬ r_2 = r_8 → ((jv_r r_2 ∧ jv_r r_8) ∧ (r_2 ≤ r_8 → Q 0 g_8) ∧ (r_8 < r_2 → Q 1 g_8))))) g_2)) g)
set_option maxHeartbeats 4000000 in
set_option maxRecDepth 100000 in
theorem M_X8_isAhead {l : Launch} {s0 : State} {b0 : Addr} {D : va_G} {ids : Nat → ClassId} {ex : Option Nat} {g : jv_Mem} {a1 : Int} {a2 : Int} {Q : Int → jv_Mem → Prop} (h : wp_X8_isAhead a1 a2 Q g) : jv_M l s0 b0 D ids yX8_isAhead cX8_isAhead 7 (some .boolean) 4 88 0 0 ex jv_SH g [.ref (s0.heap.size + (0 : Int).toNat), jv_i a1, jv_i a2] ex jv_SH (jv_qi Q) := by
  refine jv_M.of (by decide +kernel) rfl rfl (fun p e s m args below meth c C hml hr hlk hnm => ?_)
  replace C : jv_C p s m args c cX8_isAhead RX8 s0 b0 D ids := C
  show jv_V p l e (jv_rm 4 88 0 0) s m args below meth c 0 0 (jv_ZM below s0 D ids ex jv_SH (jv_qi Q) args s 0 0) s0 D ids ex jv_SH g 0 [some (.ref (s0.heap.size + (0 : Int).toNat)), some (jv_i a1), some (jv_i a2), none, none, none, none] []
  unfold wp_X8_isAhead at h
  refine jv_aload_n C dX8_isAhead_0 rfl ?_
  refine jv_iload_n C dX8_isAhead_1 rfl ?_
  refine jv_callVi C (M_X8_keptStreak h) kw_X8_273 sS_0 rfl rfl ⟨rfl, rfl⟩ (st := []) rfl rfl ⟨rfl, rfl⟩ dX8_isAhead_2 (fun r_2 g_2 h => ?_)
  refine jv_istore_n (ls' := [some (.ref (s0.heap.size + (0 : Int).toNat)), some (jv_i a1), some (jv_i a2), some (jv_i r_2), none, none, none]) C dX8_isAhead_5 (Nat.lt_of_lt_of_eq (Nat.le_of_ble_eq_true rfl) hml) rfl ?_
  refine jv_aload_n C dX8_isAhead_6 rfl ?_
  refine jv_iload_n C dX8_isAhead_7 rfl ?_
  refine jv_callVi C (M_X8_keptStreak h) kw_X8_273 sS_0 rfl rfl ⟨rfl, rfl⟩ (st := []) rfl rfl ⟨rfl, rfl⟩ dX8_isAhead_8 (fun r_8 g_8 h => ?_)
  refine jv_istore (ls' := [some (.ref (s0.heap.size + (0 : Int).toNat)), some (jv_i a1), some (jv_i a2), some (jv_i r_2), some (jv_i r_8), none, none]) C dX8_isAhead_11 (Nat.lt_of_lt_of_eq (Nat.le_of_ble_eq_true rfl) hml) rfl ?_
  refine jv_iload_n C dX8_isAhead_13 rfl ?_
  refine jv_iload C dX8_isAhead_14 rfl ?_
  obtain ⟨hr_16, h1_16, h2_16⟩ := h
  refine jv_icmp_eq (tgt := 31) C hr_16.1 hr_16.2 dX8_isAhead_16 rfl (fun hc_16 => ?_) (fun hc_16 => ?_)
  · replace h := h1_16 hc_16
    refine jv_aload_n C dX8_isAhead_31 rfl ?_
    refine jv_getr C kf_X8_45 sS_0 rfl dX8_isAhead_32 ?_
    refine jv_iload_n C dX8_isAhead_35 rfl ?_
    obtain ⟨hb_36, h⟩ := h
    refine jv_aaldS C hb_36 dX8_isAhead_36 ?_
    refine jv_callVi C (M_X4_purse (jv_sv hb_36.1 hb_36.2) h) kw_X8_293 (jv_sv hb_36.1 hb_36.2).1 rfl rfl ⟨rfl, rfl⟩ (st := []) rfl rfl ⟨rfl, rfl⟩ dX8_isAhead_37 (fun r_37 g_37 h => ?_)
    refine jv_istore (ls' := [some (.ref (s0.heap.size + (0 : Int).toNat)), some (jv_i a1), some (jv_i a2), some (jv_i r_2), some (jv_i r_8), some (jv_i r_37), none]) C dX8_isAhead_40 (Nat.lt_of_lt_of_eq (Nat.le_of_ble_eq_true rfl) hml) rfl ?_
    refine jv_aload_n C dX8_isAhead_42 rfl ?_
    refine jv_getr C kf_X8_45 sS_0 rfl dX8_isAhead_43 ?_
    refine jv_iload_n C dX8_isAhead_46 rfl ?_
    obtain ⟨hb_47, h⟩ := h
    refine jv_aaldS C hb_47 dX8_isAhead_47 ?_
    refine jv_callVi C (M_X4_purse (jv_sv hb_47.1 hb_47.2) h) kw_X8_293 (jv_sv hb_47.1 hb_47.2).1 rfl rfl ⟨rfl, rfl⟩ (st := []) rfl rfl ⟨rfl, rfl⟩ dX8_isAhead_48 (fun r_48 g_48 h => ?_)
    refine jv_istore (ls' := [some (.ref (s0.heap.size + (0 : Int).toNat)), some (jv_i a1), some (jv_i a2), some (jv_i r_2), some (jv_i r_8), some (jv_i r_37), some (jv_i r_48)]) C dX8_isAhead_51 (Nat.lt_of_lt_of_eq (Nat.le_of_ble_eq_true rfl) hml) rfl ?_
    refine jv_iload C dX8_isAhead_53 rfl ?_
    refine jv_iload C dX8_isAhead_55 rfl ?_
    obtain ⟨hr_57, h1_57, h2_57⟩ := h
    refine jv_icmp_eq (tgt := 75) C hr_57.1 hr_57.2 dX8_isAhead_57 rfl (fun hc_57 => ?_) (fun hc_57 => ?_)
    · replace h := h1_57 hc_57
      refine jv_iload_n C dX8_isAhead_75 rfl ?_
      refine jv_iload_n C dX8_isAhead_76 rfl ?_
      obtain ⟨hr_77, h1_77, h2_77⟩ := h
      refine jv_icmp_ge (tgt := 84) C hr_77.1 hr_77.2 dX8_isAhead_77 rfl (fun hc_77 => ?_) (fun hc_77 => ?_)
      · replace h := h1_77 hc_77
        refine jv_const C dX8_isAhead_84 ?_
        exact jv_zret C hr hlk rfl ⟨_, rfl, h⟩ dX8_isAhead_85 ⟨rfl, rfl⟩
      · replace h := h2_77 hc_77
        refine jv_const C dX8_isAhead_80 ?_
        refine jv_goto (tgt := 85) C dX8_isAhead_81 rfl ?_
        exact jv_zret C hr hlk rfl ⟨_, rfl, h⟩ dX8_isAhead_85 ⟨rfl, rfl⟩
    · replace h := h2_57 hc_57
      refine jv_iload C dX8_isAhead_60 rfl ?_
      refine jv_iload C dX8_isAhead_62 rfl ?_
      obtain ⟨hr_64, h1_64, h2_64⟩ := h
      refine jv_icmp_le (tgt := 71) C hr_64.1 hr_64.2 dX8_isAhead_64 rfl (fun hc_64 => ?_) (fun hc_64 => ?_)
      · replace h := h1_64 hc_64
        refine jv_const C dX8_isAhead_71 ?_
        refine jv_goto (tgt := 85) C dX8_isAhead_72 rfl ?_
        exact jv_zret C hr hlk rfl ⟨_, rfl, h⟩ dX8_isAhead_85 ⟨rfl, rfl⟩
      · replace h := h2_64 hc_64
        refine jv_const C dX8_isAhead_67 ?_
        refine jv_goto (tgt := 85) C dX8_isAhead_68 rfl ?_
        exact jv_zret C hr hlk rfl ⟨_, rfl, h⟩ dX8_isAhead_85 ⟨rfl, rfl⟩
  · replace h := h2_16 hc_16
    refine jv_iload_n C dX8_isAhead_19 rfl ?_
    refine jv_iload C dX8_isAhead_20 rfl ?_
    obtain ⟨hr_22, h1_22, h2_22⟩ := h
    refine jv_icmp_le (tgt := 29) C hr_22.1 hr_22.2 dX8_isAhead_22 rfl (fun hc_22 => ?_) (fun hc_22 => ?_)
    · replace h := h1_22 hc_22
      refine jv_const C dX8_isAhead_29 ?_
      exact jv_zret C hr hlk rfl ⟨_, rfl, h⟩ dX8_isAhead_30 ⟨rfl, rfl⟩
    · replace h := h2_22 hc_22
      refine jv_const C dX8_isAhead_25 ?_
      refine jv_goto (tgt := 30) C dX8_isAhead_26 rfl ?_
      exact jv_zret C hr hlk rfl ⟨_, rfl, h⟩ dX8_isAhead_30 ⟨rfl, rfl⟩

def wB_X8_rank_29 (K4 : Int → Int → jv_Mem → Prop) (x3_4 : Int) (x2_29 : Int) (gj_29 : jv_Mem) : Prop :=
  (∀ v3_29 : Int, v3_29 = x3_4 + 1 → K4 x2_29 v3_29 gj_29)
def wp_X8_rank (a1 : Int) (Q : Int → jv_Mem → Prop) (g : jv_Mem) : Prop :=
  jv_lp2 (fun (K4 : Int → Int → jv_Mem → Prop) (x2_4 x3_4 : Int) (gl_4 : jv_Mem) => ((jv_r x3_4 ∧ jv_r (gl_4 0 10)) ∧ ((gl_4 0 10) ≤ x3_4 → Q x2_4 gl_4) ∧ (x3_4 < (gl_4 0 10) → ((jv_r x3_4 ∧ jv_r a1) ∧ (x3_4 = a1 → wB_X8_rank_29 K4 x3_4 x2_4 gl_4) ∧ (¬ x3_4 = a1 → (wp_X8_isAhead x3_4 a1 (fun (r_20 : Int) (g_20 : jv_Mem) => ((jv_r r_20) ∧ (r_20 = 0 → wB_X8_rank_29 K4 x3_4 x2_4 g_20) ∧ (¬ r_20 = 0 → (∀ v2_26 : Int, v2_26 = x2_4 + 1 → wB_X8_rank_29 K4 x3_4 v2_26 g_20)))) gl_4)))))) 0 0 g
set_option maxHeartbeats 4000000 in
set_option maxRecDepth 100000 in
theorem M_X8_rank {l : Launch} {s0 : State} {b0 : Addr} {D : va_G} {ids : Nat → ClassId} {ex : Option Nat} {g : jv_Mem} {a1 : Int} {Q : Int → jv_Mem → Prop} (h : wp_X8_rank a1 Q g) : jv_M l s0 b0 D ids yX8_rank cX8_rank 4 (some .int) 5 114 0 0 ex jv_SH g [.ref (s0.heap.size + (0 : Int).toNat), jv_i a1] ex jv_SH (jv_qi Q) := by
  refine jv_M.of (by decide +kernel) rfl rfl (fun p e s m args below meth c C hml hr hlk hnm => ?_)
  replace C : jv_C p s m args c cX8_rank RX8 s0 b0 D ids := C
  show jv_V p l e (jv_rm 5 114 0 0) s m args below meth c 0 0 (jv_ZM below s0 D ids ex jv_SH (jv_qi Q) args s 0 0) s0 D ids ex jv_SH g 0 [some (.ref (s0.heap.size + (0 : Int).toNat)), some (jv_i a1), none, none] []
  unfold wp_X8_rank at h
  refine jv_const C dX8_rank_0 ?_
  refine jv_istore_n (ls' := [some (.ref (s0.heap.size + (0 : Int).toNat)), some (jv_i a1), some (jv_i 0), none]) C dX8_rank_1 (Nat.lt_of_lt_of_eq (Nat.le_of_ble_eq_true rfl) hml) rfl ?_
  refine jv_const C dX8_rank_2 ?_
  refine jv_istore_n (ls' := [some (.ref (s0.heap.size + (0 : Int).toNat)), some (jv_i a1), some (jv_i 0), some (jv_i 0)]) C dX8_rank_3 (Nat.lt_of_lt_of_eq (Nat.le_of_ble_eq_true rfl) hml) rfl ?_
  refine jv_less (ls' := [some (.ref (s0.heap.size + (0 : Int).toNat)), some (jv_i a1), some (jv_i 0), some (jv_i 0)]) ⟨rfl, ⟨rfl, ⟨rfl, ⟨rfl, trivial⟩⟩⟩⟩ ?_
  refine jv_lp2.use h (fun (x2_4 x3_4 : Int) (gl_4 : jv_Mem) => jv_V p l e (jv_rm 5 114 0 0) s m args below meth c 0 0 (jv_ZM below s0 D ids ex jv_SH (jv_qi Q) args s 0 0) s0 D ids ex jv_SH gl_4 4 [some (.ref (s0.heap.size + (0 : Int).toNat)), some (jv_i a1), some (jv_i x2_4), some (jv_i x3_4)] []) ?_
  intro K4 hK4 x2_4 x3_4 gl_4 h
  refine jv_iload_n C dX8_rank_4 rfl ?_
  refine jv_aload_n C dX8_rank_5 rfl ?_
  refine jv_geti C kf_X8_228 sS_0 rfl dX8_rank_6 ?_
  obtain ⟨hr_9, h1_9, h2_9⟩ := h
  refine jv_icmp_ge (tgt := 35) C hr_9.1 hr_9.2 dX8_rank_9 rfl (fun hc_9 => ?_) (fun hc_9 => ?_)
  · replace h := h1_9 hc_9
    refine jv_iload_n C dX8_rank_35 rfl ?_
    exact jv_iret C hr hlk ⟨_, rfl, h⟩ dX8_rank_36 ⟨rfl, rfl⟩
  · replace h := h2_9 hc_9
    refine jv_iload_n C dX8_rank_12 rfl ?_
    refine jv_iload_n C dX8_rank_13 rfl ?_
    have hJ29 : ∀ (x2_29 : Int) (gj_29 : jv_Mem), wB_X8_rank_29 K4 x3_4 x2_29 gj_29 → jv_V p l e (jv_rm 5 114 0 0) s m args below meth c 0 0 (jv_ZM below s0 D ids ex jv_SH (jv_qi Q) args s 0 0) s0 D ids ex jv_SH gj_29 29 [some (.ref (s0.heap.size + (0 : Int).toNat)), some (jv_i a1), some (jv_i x2_29), some (jv_i x3_4)] [] := by
      intro x2_29 gj_29 h
      unfold wB_X8_rank_29 at h
      refine jv_iincn C dX8_rank_29 (Nat.lt_of_lt_of_eq (Nat.le_of_ble_eq_true rfl) hml) rfl (fun v3_29 ev3_29 => ?_)
      replace h := h v3_29 ev3_29
      refine jv_lset (ls' := [some (.ref (s0.heap.size + (0 : Int).toNat)), some (jv_i a1), some (jv_i x2_29), some (jv_i v3_29)]) rfl ?_
      refine jv_goto (tgt := 4) C dX8_rank_32 rfl ?_
      exact jv_less (ls' := [some (.ref (s0.heap.size + (0 : Int).toNat)), some (jv_i a1), some (jv_i x2_29), some (jv_i v3_29)]) ⟨rfl, ⟨rfl, ⟨rfl, ⟨rfl, trivial⟩⟩⟩⟩ (hK4 _ _ _ h)
    obtain ⟨hr_14, h1_14, h2_14⟩ := h
    refine jv_icmp_eq (tgt := 29) C hr_14.1 hr_14.2 dX8_rank_14 rfl (fun hc_14 => ?_) (fun hc_14 => ?_)
    · replace h := h1_14 hc_14
      exact jv_less (ls' := [some (.ref (s0.heap.size + (0 : Int).toNat)), some (jv_i a1), some (jv_i x2_4), some (jv_i x3_4)]) ⟨rfl, ⟨rfl, ⟨rfl, ⟨rfl, trivial⟩⟩⟩⟩ (hJ29 _ _ h)
    · replace h := h2_14 hc_14
      refine jv_aload_n C dX8_rank_17 rfl ?_
      refine jv_iload_n C dX8_rank_18 rfl ?_
      refine jv_iload_n C dX8_rank_19 rfl ?_
      refine jv_callVi C (M_X8_isAhead h) kw_X8_365 sS_0 rfl rfl ⟨rfl, rfl⟩ (st := []) rfl rfl ⟨rfl, rfl⟩ dX8_rank_20 (fun r_20 g_20 h => ?_)
      obtain ⟨hr_23, h1_23, h2_23⟩ := h
      refine jv_if_eq (tgt := 29) C hr_23 dX8_rank_23 rfl (fun hc_23 => ?_) (fun hc_23 => ?_)
      · replace h := h1_23 hc_23
        exact jv_less (ls' := [some (.ref (s0.heap.size + (0 : Int).toNat)), some (jv_i a1), some (jv_i x2_4), some (jv_i x3_4)]) ⟨rfl, ⟨rfl, ⟨rfl, ⟨rfl, trivial⟩⟩⟩⟩ (hJ29 _ _ h)
      · replace h := h2_23 hc_23
        refine jv_iincn C dX8_rank_26 (Nat.lt_of_lt_of_eq (Nat.le_of_ble_eq_true rfl) hml) rfl (fun v2_26 ev2_26 => ?_)
        replace h := h v2_26 ev2_26
        refine jv_lset (ls' := [some (.ref (s0.heap.size + (0 : Int).toNat)), some (jv_i a1), some (jv_i v2_26), some (jv_i x3_4)]) rfl ?_
        exact jv_less (ls' := [some (.ref (s0.heap.size + (0 : Int).toNat)), some (jv_i a1), some (jv_i v2_26), some (jv_i x3_4)]) ⟨rfl, ⟨rfl, ⟨rfl, ⟨rfl, trivial⟩⟩⟩⟩ (hJ29 _ _ h)

def wp_X8_solverAt (a1 : Int) (Q : Int → jv_Mem → Prop) (g : jv_Mem) : Prop :=
  jv_lp1 (fun (K2 : Int → jv_Mem → Prop) (x2_2 : Int) (gl_2 : jv_Mem) => ((jv_r x2_2 ∧ jv_r (gl_2 0 10)) ∧ ((gl_2 0 10) ≤ x2_2 → Q ((-1)) gl_2) ∧ (x2_2 < (gl_2 0 10) → (wp_X8_rank x2_2 (fun (r_12 : Int) (g_12 : jv_Mem) => ((jv_r r_12 ∧ jv_r a1) ∧ (¬ r_12 = a1 → (∀ v2_21 : Int, v2_21 = x2_2 + 1 → K2 v2_21 g_12)) ∧ (r_12 = a1 → Q x2_2 g_12))) gl_2)))) 0 g
set_option maxHeartbeats 4000000 in
set_option maxRecDepth 100000 in
theorem M_X8_solverAt {l : Launch} {s0 : State} {b0 : Addr} {D : va_G} {ids : Nat → ClassId} {ex : Option Nat} {g : jv_Mem} {a1 : Int} {Q : Int → jv_Mem → Prop} (h : wp_X8_solverAt a1 Q g) : jv_M l s0 b0 D ids yX8_solverAt cX8_solverAt 3 (some .int) 6 137 0 0 ex jv_SH g [.ref (s0.heap.size + (0 : Int).toNat), jv_i a1] ex jv_SH (jv_qi Q) := by
  refine jv_M.of (by decide +kernel) rfl rfl (fun p e s m args below meth c C hml hr hlk hnm => ?_)
  replace C : jv_C p s m args c cX8_solverAt RX8 s0 b0 D ids := C
  show jv_V p l e (jv_rm 6 137 0 0) s m args below meth c 0 0 (jv_ZM below s0 D ids ex jv_SH (jv_qi Q) args s 0 0) s0 D ids ex jv_SH g 0 [some (.ref (s0.heap.size + (0 : Int).toNat)), some (jv_i a1), none] []
  unfold wp_X8_solverAt at h
  refine jv_const C dX8_solverAt_0 ?_
  refine jv_istore_n (ls' := [some (.ref (s0.heap.size + (0 : Int).toNat)), some (jv_i a1), some (jv_i 0)]) C dX8_solverAt_1 (Nat.lt_of_lt_of_eq (Nat.le_of_ble_eq_true rfl) hml) rfl ?_
  refine jv_less (ls' := [some (.ref (s0.heap.size + (0 : Int).toNat)), some (jv_i a1), some (jv_i 0)]) ⟨rfl, ⟨rfl, ⟨rfl, trivial⟩⟩⟩ ?_
  refine jv_lp1.use h (fun (x2_2 : Int) (gl_2 : jv_Mem) => jv_V p l e (jv_rm 6 137 0 0) s m args below meth c 0 0 (jv_ZM below s0 D ids ex jv_SH (jv_qi Q) args s 0 0) s0 D ids ex jv_SH gl_2 2 [some (.ref (s0.heap.size + (0 : Int).toNat)), some (jv_i a1), some (jv_i x2_2)] []) ?_
  intro K2 hK2 x2_2 gl_2 h
  refine jv_iload_n C dX8_solverAt_2 rfl ?_
  refine jv_aload_n C dX8_solverAt_3 rfl ?_
  refine jv_geti C kf_X8_228 sS_0 rfl dX8_solverAt_4 ?_
  obtain ⟨hr_7, h1_7, h2_7⟩ := h
  refine jv_icmp_ge (tgt := 27) C hr_7.1 hr_7.2 dX8_solverAt_7 rfl (fun hc_7 => ?_) (fun hc_7 => ?_)
  · replace h := h1_7 hc_7
    refine jv_const C dX8_solverAt_27 ?_
    exact jv_iret C hr hlk ⟨_, rfl, h⟩ dX8_solverAt_28 ⟨rfl, rfl⟩
  · replace h := h2_7 hc_7
    refine jv_aload_n C dX8_solverAt_10 rfl ?_
    refine jv_iload_n C dX8_solverAt_11 rfl ?_
    refine jv_callVi C (M_X8_rank h) kw_X8_315 sS_0 rfl rfl ⟨rfl, rfl⟩ (st := []) rfl rfl ⟨rfl, rfl⟩ dX8_solverAt_12 (fun r_12 g_12 h => ?_)
    refine jv_iload_n C dX8_solverAt_15 rfl ?_
    obtain ⟨hr_16, h1_16, h2_16⟩ := h
    refine jv_icmp_ne (tgt := 21) C hr_16.1 hr_16.2 dX8_solverAt_16 rfl (fun hc_16 => ?_) (fun hc_16 => ?_)
    · replace h := h1_16 hc_16
      refine jv_iincn C dX8_solverAt_21 (Nat.lt_of_lt_of_eq (Nat.le_of_ble_eq_true rfl) hml) rfl (fun v2_21 ev2_21 => ?_)
      replace h := h v2_21 ev2_21
      refine jv_lset (ls' := [some (.ref (s0.heap.size + (0 : Int).toNat)), some (jv_i a1), some (jv_i v2_21)]) rfl ?_
      refine jv_goto (tgt := 2) C dX8_solverAt_24 rfl ?_
      exact jv_less (ls' := [some (.ref (s0.heap.size + (0 : Int).toNat)), some (jv_i a1), some (jv_i v2_21)]) ⟨rfl, ⟨rfl, ⟨rfl, trivial⟩⟩⟩ (hK2 _ _ h)
    · replace h := h2_16 hc_16
      refine jv_iload_n C dX8_solverAt_19 rfl ?_
      exact jv_iret C hr hlk ⟨_, rfl, h⟩ dX8_solverAt_20 ⟨rfl, rfl⟩

