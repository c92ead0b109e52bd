def wp_X8_needIndex (a0 : Int) (a1 : Int) (Q : jv_Mem → Prop) (Qx : String → jv_Mem → Prop) (g : jv_Mem) : Prop :=
  (wp_X8_isIndex a0 a1 (fun (r_2 : Int) (g_2 : jv_Mem) => ((jv_r r_2) ∧ (¬ r_2 = 0 → Q g_2) ∧ (r_2 = 0 → Qx "java/lang/IndexOutOfBoundsException" g_2))) g)
set_option maxHeartbeats 4000000 in
set_option maxRecDepth 100000 in
theorem M_X8_needIndex {l : Launch} {s0 : State} {b0 : Addr} {D : va_G} {ids : Nat → ClassId} {g : jv_Mem} {a0 : Int} {a1 : Int} {Q : jv_Mem → Prop} {Qx : String → jv_Mem → Prop} (hT : jv_T l s0 b0) (h : wp_X8_needIndex a0 a1 Q Qx g) : jv_MX l s0 b0 D ids yX8_needIndex cX8_needIndex 2 none 6 95 1 6 jv_SH g [jv_i a0, jv_i a1] (jv_qv Q) Qx := by
  refine jv_MX.of (by decide +kernel) rfl rfl (fun p e s m args below meth c C hml hr hlk hxt => ?_)
  replace C : jv_C p s m args c cX8_needIndex RX8 s0 b0 D ids := C
  show jv_V p l e (jv_rm 6 95 1 6) s m args below meth c 0 0 (jv_ZX below s0 D ids jv_SH (jv_qv Q) Qx args s 1 6) s0 D ids none jv_SH g 0 [some (jv_i a0), some (jv_i a1)] []
  unfold wp_X8_needIndex at h
  refine jv_iload_n C dX8_needIndex_0 rfl ?_
  refine jv_iload_n C dX8_needIndex_1 rfl ?_
  refine jv_callSi C (M_X8_isIndex h) kw_X8_139 rfl ⟨rfl, rfl⟩ (st := []) rfl rfl ⟨rfl, rfl⟩ dX8_needIndex_2 (fun r_2 g_2 h => ?_)
  obtain ⟨hr_5, h1_5, h2_5⟩ := h
  refine jv_if_ne (tgt := 19) C hr_5 dX8_needIndex_5 rfl (fun hc_5 => ?_) (fun hc_5 => ?_)
  · replace h := h1_5 hc_5
    exact jv_xret (jv_vret C hr hlk ⟨rfl, h⟩ dX8_needIndex_19 ⟨rfl, rfl⟩)
  · replace h := h2_5 hc_5
    exact jt_X8_needIndex C hT hlk hxt ⟨rfl, rfl⟩ ⟨rfl, rfl⟩ h ⟨rfl, rfl⟩

def wp_X8_needRoomForLetter (Q : jv_Mem → Prop) (Qx : String → jv_Mem → Prop) (g : jv_Mem) : Prop :=
  (wp_X5_isFull (fun (r_4 : Int) (g_4 : jv_Mem) => ((jv_r r_4) ∧ (r_4 = 0 → Q g_4) ∧ (¬ r_4 = 0 → Qx "java/lang/IllegalStateException" g_4))) g)
set_option maxHeartbeats 4000000 in
set_option maxRecDepth 100000 in
theorem M_X8_needRoomForLetter {l : Launch} {s0 : State} {b0 : Addr} {D : va_G} {ids : Nat → ClassId} {g : jv_Mem} {Q : jv_Mem → Prop} {Qx : String → jv_Mem → Prop} (hT : jv_T l s0 b0) (h : wp_X8_needRoomForLetter Q Qx g) : jv_MX l s0 b0 D ids yX8_needRoomForLetter cX8_needRoomForLetter 1 none 6 95 1 6 jv_SH g [.ref (s0.heap.size + (0 : Int).toNat)] (jv_qv Q) Qx := by
  refine jv_MX.of (by decide +kernel) rfl rfl (fun p e s m args below meth c C hml hr hlk hxt => ?_)
  replace C : jv_C p s m args c cX8_needRoomForLetter RX8 s0 b0 D ids := C
  show jv_V p l e (jv_rm 6 95 1 6) s m args below meth c 0 0 (jv_ZX below s0 D ids jv_SH (jv_qv Q) Qx args s 1 6) s0 D ids none jv_SH g 0 [some (.ref (s0.heap.size + (0 : Int).toNat))] []
  unfold wp_X8_needRoomForLetter at h
  refine jv_aload_n C dX8_needRoomForLetter_0 rfl ?_
  refine jv_getr C kf_X8_10 sS_0 rfl dX8_needRoomForLetter_1 ?_
  refine jv_callVi C (M_X5_isFull h) kw_X8_111 sS_1 rfl rfl ⟨rfl, rfl⟩ (st := []) rfl rfl ⟨rfl, rfl⟩ dX8_needRoomForLetter_4 (fun r_4 g_4 h => ?_)
  obtain ⟨hr_7, h1_7, h2_7⟩ := h
  refine jv_if_eq (tgt := 21) C hr_7 dX8_needRoomForLetter_7 rfl (fun hc_7 => ?_) (fun hc_7 => ?_)
  · replace h := h1_7 hc_7
    exact jv_xret (jv_vret C hr hlk ⟨rfl, h⟩ dX8_needRoomForLetter_21 ⟨rfl, rfl⟩)
  · replace h := h2_7 hc_7
    exact jt_X8_needRoomForLetter C hT hlk hxt ⟨rfl, rfl⟩ ⟨rfl, rfl⟩ h ⟨rfl, rfl⟩

def wp_X8_spell (a1 : Int) (Q : Int → jv_Mem → Prop) (Qx : String → jv_Mem → Prop) (g : jv_Mem) : Prop :=
  (wp_X8_needIndex a1 9 (fun (g_3 : jv_Mem) => (wp_X8_needRoomForLetter (fun (g_7 : jv_Mem) => (wp_X5_putAtEnd a1 (fun (g_15 : jv_Mem) => (wp_X5_charCount (fun (r_22 : Int) (g_22 : jv_Mem) => Q r_22 g_22) g_15)) g_7)) (fun (E : String) (gx : jv_Mem) => Qx E gx) g_3)) (fun (E : String) (gx : jv_Mem) => Qx E gx) g)
set_option maxHeartbeats 4000000 in
set_option maxRecDepth 100000 in
theorem M_X8_spell {l : Launch} {s0 : State} {b0 : Addr} {D : va_G} {ids : Nat → ClassId} {g : jv_Mem} {a1 : Int} {Q : Int → jv_Mem → Prop} {Qx : String → jv_Mem → Prop} (hT : jv_T l s0 b0) (h : wp_X8_spell a1 Q Qx g) : jv_MX l s0 b0 D ids yX8_spell cX8_spell 2 (some .int) 7 116 2 12 jv_SH g [.ref (s0.heap.size + (0 : Int).toNat), jv_i a1] (jv_qi Q) Qx := by
  refine jv_MX.of (by decide +kernel) rfl rfl (fun p e s m args below meth c C hml hr hlk hxt => ?_)
  replace C : jv_C p s m args c cX8_spell RX8 s0 b0 D ids := C
  show jv_V p l e (jv_rm 7 116 2 12) s m args below meth c 0 0 (jv_ZX below s0 D ids jv_SH (jv_qi Q) Qx args s 2 12) s0 D ids none jv_SH g 0 [some (.ref (s0.heap.size + (0 : Int).toNat)), some (jv_i a1)] []
  unfold wp_X8_spell at h
  refine jv_iload_n C dX8_spell_0 rfl ?_
  refine jv_bipush C dX8_spell_1 (by decide +kernel) ?_
  refine jv_callSXv C (M_X8_needIndex hT h) kw_X8_69 rfl ⟨rfl, rfl⟩ (st := []) rfl rfl ⟨rfl, rfl⟩ dX8_spell_3 (fun g_3 h => ?_) (fun E gx h => ?_)
  rotate_left 1
  · exact jv_xout hxt hlk h ⟨rfl, rfl⟩
  refine jv_aload_n C dX8_spell_6 rfl ?_
  refine jv_callVXv C (M_X8_needRoomForLetter hT h) kw_X8_73 sS_0 rfl rfl ⟨rfl, rfl⟩ (st := []) rfl rfl ⟨rfl, rfl⟩ dX8_spell_7 (fun g_7 h => ?_) (fun E gx h => ?_)
  rotate_left 1
  · exact jv_xout hxt hlk h ⟨rfl, rfl⟩
  refine jv_aload_n C dX8_spell_10 rfl ?_
  refine jv_getr C kf_X8_10 sS_0 rfl dX8_spell_11 ?_
  refine jv_iload_n C dX8_spell_14 rfl ?_
  refine jv_callVv C (M_X5_putAtEnd h) kw_X8_76 sS_1 rfl rfl ⟨rfl, rfl⟩ (st := []) rfl rfl ⟨rfl, rfl⟩ dX8_spell_15 (fun g_15 h => ?_)
  refine jv_aload_n C dX8_spell_18 rfl ?_
  refine jv_getr C kf_X8_10 sS_0 rfl dX8_spell_19 ?_
  refine jv_callVi C (M_X5_charCount h) kw_X8_80 sS_1 rfl rfl ⟨rfl, rfl⟩ (st := []) rfl rfl ⟨rfl, rfl⟩ dX8_spell_22 (fun r_22 g_22 h => ?_)
  exact jv_xret (jv_iret C hr hlk ⟨_, rfl, h⟩ dX8_spell_25 ⟨rfl, rfl⟩)

def wp_X8_insert (a1 : Int) (Q : Int → jv_Mem → Prop) (Qx : String → jv_Mem → Prop) (g : jv_Mem) : Prop :=
  (wp_X8_needIndex a1 9 (fun (g_3 : jv_Mem) => (wp_X8_needRoomForLetter (fun (g_7 : jv_Mem) => (wp_X5_putAtBeginning a1 (fun (g_15 : jv_Mem) => (wp_X5_charCount (fun (r_22 : Int) (g_22 : jv_Mem) => Q r_22 g_22) g_15)) g_7)) (fun (E : String) (gx : jv_Mem) => Qx E gx) g_3)) (fun (E : String) (gx : jv_Mem) => Qx E gx) g)
set_option maxHeartbeats 4000000 in
set_option maxRecDepth 100000 in
theorem M_X8_insert {l : Launch} {s0 : State} {b0 : Addr} {D : va_G} {ids : Nat → ClassId} {g : jv_Mem} {a1 : Int} {Q : Int → jv_Mem → Prop} {Qx : String → jv_Mem → Prop} (hT : jv_T l s0 b0) (h : wp_X8_insert a1 Q Qx g) : jv_MX l s0 b0 D ids yX8_insert cX8_insert 2 (some .int) 7 116 2 12 jv_SH g [.ref (s0.heap.size + (0 : Int).toNat), jv_i a1] (jv_qi Q) Qx := by
  refine jv_MX.of (by decide +kernel) rfl rfl (fun p e s m args below meth c C hml hr hlk hxt => ?_)
  replace C : jv_C p s m args c cX8_insert RX8 s0 b0 D ids := C
  show jv_V p l e (jv_rm 7 116 2 12) s m args below meth c 0 0 (jv_ZX below s0 D ids jv_SH (jv_qi Q) Qx args s 2 12) s0 D ids none jv_SH g 0 [some (.ref (s0.heap.size + (0 : Int).toNat)), some (jv_i a1)] []
  unfold wp_X8_insert at h
  refine jv_iload_n C dX8_insert_0 rfl ?_
  refine jv_bipush C dX8_insert_1 (by decide +kernel) ?_
  refine jv_callSXv C (M_X8_needIndex hT h) kw_X8_69 rfl ⟨rfl, rfl⟩ (st := []) rfl rfl ⟨rfl, rfl⟩ dX8_insert_3 (fun g_3 h => ?_) (fun E gx h => ?_)
  rotate_left 1
  · exact jv_xout hxt hlk h ⟨rfl, rfl⟩
  refine jv_aload_n C dX8_insert_6 rfl ?_
  refine jv_callVXv C (M_X8_needRoomForLetter hT h) kw_X8_73 sS_0 rfl rfl ⟨rfl, rfl⟩ (st := []) rfl rfl ⟨rfl, rfl⟩ dX8_insert_7 (fun g_7 h => ?_) (fun E gx h => ?_)
  rotate_left 1
  · exact jv_xout hxt hlk h ⟨rfl, rfl⟩
  refine jv_aload_n C dX8_insert_10 rfl ?_
  refine jv_getr C kf_X8_10 sS_0 rfl dX8_insert_11 ?_
  refine jv_iload_n C dX8_insert_14 rfl ?_
  refine jv_callVv C (M_X5_putAtBeginning h) kw_X8_84 sS_1 rfl rfl ⟨rfl, rfl⟩ (st := []) rfl rfl ⟨rfl, rfl⟩ dX8_insert_15 (fun g_15 h => ?_)
  refine jv_aload_n C dX8_insert_18 rfl ?_
  refine jv_getr C kf_X8_10 sS_0 rfl dX8_insert_19 ?_
  refine jv_callVi C (M_X5_charCount h) kw_X8_80 sS_1 rfl rfl ⟨rfl, rfl⟩ (st := []) rfl rfl ⟨rfl, rfl⟩ dX8_insert_22 (fun r_22 g_22 h => ?_)
  exact jv_xret (jv_iret C hr hlk ⟨_, rfl, h⟩ dX8_insert_25 ⟨rfl, rfl⟩)

def wp_X8_charAt (a1 : Int) (Q : Int → jv_Mem → Prop) (Qx : String → jv_Mem → Prop) (g : jv_Mem) : Prop :=
  (wp_X5_charOrNone a1 (fun (r_5 : Int) (g_5 : jv_Mem) => ((jv_r r_5) ∧ (¬ r_5 = ((-1)) → ((0 ≤ r_5 ∧ r_5 < 65536) ∧ (((0 : Int) ≤ r_5 ∧ r_5 < (65536 : Int)) ∧ Q r_5 g_5))) ∧ (r_5 = ((-1)) → Qx "java/util/NoSuchElementException" g_5))) g)
set_option maxHeartbeats 4000000 in
set_option maxRecDepth 100000 in
theorem M_X8_charAt {l : Launch} {s0 : State} {b0 : Addr} {D : va_G} {ids : Nat → ClassId} {g : jv_Mem} {a1 : Int} {Q : Int → jv_Mem → Prop} {Qx : String → jv_Mem → Prop} (hT : jv_T l s0 b0) (h : wp_X8_charAt a1 Q Qx g) : jv_MX l s0 b0 D ids yX8_charAt cX8_charAt 3 (some .char) 6 95 1 6 jv_SH g [.ref (s0.heap.size + (0 : Int).toNat), jv_i a1] (jv_qi Q) Qx := by
  refine jv_MX.of (by decide +kernel) rfl rfl (fun p e s m args below meth c C hml hr hlk hxt => ?_)
  replace C : jv_C p s m args c cX8_charAt RX8 s0 b0 D ids := C
  show jv_V p l e (jv_rm 6 95 1 6) s m args below meth c 0 0 (jv_ZX below s0 D ids jv_SH (jv_qi Q) Qx args s 1 6) s0 D ids none jv_SH g 0 [some (.ref (s0.heap.size + (0 : Int).toNat)), some (jv_i a1), none] []
  unfold wp_X8_charAt at h
  refine jv_aload_n C dX8_charAt_0 rfl ?_
  refine jv_getr C kf_X8_10 sS_0 rfl dX8_charAt_1 ?_
  refine jv_iload_n C dX8_charAt_4 rfl ?_
  refine jv_callVi C (M_X5_charOrNone h) kw_X8_96 sS_1 rfl rfl ⟨rfl, rfl⟩ (st := []) rfl rfl ⟨rfl, rfl⟩ dX8_charAt_5 (fun r_5 g_5 h => ?_)
  refine jv_istore_n (ls' := [some (.ref (s0.heap.size + (0 : Int).toNat)), some (jv_i a1), some (jv_i r_5)]) C dX8_charAt_8 (Nat.lt_of_lt_of_eq (Nat.le_of_ble_eq_true rfl) hml) rfl ?_
  refine jv_iload_n C dX8_charAt_9 rfl ?_
  refine jv_const C dX8_charAt_10 ?_
  obtain ⟨hr_11, h1_11, h2_11⟩ := h
  refine jv_icmp_ne (tgt := 24) C hr_11 ⟨by decide, by decide⟩ dX8_charAt_11 rfl (fun hc_11 => ?_) (fun hc_11 => ?_)
  · replace h := h1_11 hc_11
    refine jv_iload_n C dX8_charAt_24 rfl ?_
    obtain ⟨hb_25, h⟩ := h
    refine jv_i2c C hb_25 dX8_charAt_25 ?_
    obtain ⟨hz_26, h⟩ := h
    exact jv_xret (jv_zret C hr hlk (jv_nc hz_26) ⟨_, rfl, h⟩ dX8_charAt_26 ⟨rfl, rfl⟩)
  · replace h := h2_11 hc_11
    exact jt_X8_charAt C hT hlk hxt ⟨rfl, rfl⟩ ⟨rfl, rfl⟩ h ⟨rfl, rfl⟩

def wB_X8_needRange_10 (Qx : String → jv_Mem → Prop) (gj_10 : jv_Mem) : Prop :=
  Qx "java/lang/IllegalArgumentException" gj_10
def wp_X8_needRange (a0 : Int) (a1 : Int) (a2 : Int) (Q : jv_Mem → Prop) (Qx : String → jv_Mem → Prop) (g : jv_Mem) : Prop :=
  ((jv_r a0 ∧ jv_r a1) ∧ (a0 < a1 → wB_X8_needRange_10 Qx g) ∧ (a1 ≤ a0 → ((jv_r a0 ∧ jv_r a2) ∧ (a0 ≤ a2 → Q g) ∧ (a2 < a0 → wB_X8_needRange_10 Qx g))))
set_option maxHeartbeats 4000000 in
set_option maxRecDepth 100000 in
theorem M_X8_needRange {l : Launch} {s0 : State} {b0 : Addr} {D : va_G} {ids : Nat → ClassId} {g : jv_Mem} {a0 : Int} {a1 : Int} {a2 : Int} {Q : jv_Mem → Prop} {Qx : String → jv_Mem → Prop} (hT : jv_T l s0 b0) (h : wp_X8_needRange a0 a1 a2 Q Qx g) : jv_MX l s0 b0 D ids yX8_needRange cX8_needRange 3 none 6 95 1 6 jv_SH g [jv_i a0, jv_i a1, jv_i a2] (jv_qv Q) Qx := by
  refine jv_MX.of (by decide +kernel) rfl rfl (fun p e s m args below meth c C hml hr hlk hxt => ?_)
  replace C : jv_C p s m args c cX8_needRange RX8 s0 b0 D ids := C
  show jv_V p l e (jv_rm 6 95 1 6) s m args below meth c 0 0 (jv_ZX below s0 D ids jv_SH (jv_qv Q) Qx args s 1 6) s0 D ids none jv_SH g 0 [some (jv_i a0), some (jv_i a1), some (jv_i a2)] []
  unfold wp_X8_needRange at h
  refine jv_iload_n C dX8_needRange_0 rfl ?_
  refine jv_iload_n C dX8_needRange_1 rfl ?_
  have hJ10 : ∀ (gj_10 : jv_Mem), wB_X8_needRange_10 Qx gj_10 → jv_V p l e (jv_rm 6 95 1 6) s m args below meth c 0 0 (jv_ZX below s0 D ids jv_SH (jv_qv Q) Qx args s 1 6) s0 D ids none jv_SH gj_10 10 [none, none, none] [] := by
    intro gj_10 h
    unfold wB_X8_needRange_10 at h
    exact jt_X8_needRange C hT hlk hxt ⟨rfl, rfl⟩ ⟨rfl, rfl⟩ h ⟨rfl, rfl⟩
  obtain ⟨hr_2, h1_2, h2_2⟩ := h
  refine jv_icmp_lt (tgt := 10) C hr_2.1 hr_2.2 dX8_needRange_2 rfl (fun hc_2 => ?_) (fun hc_2 => ?_)
  · replace h := h1_2 hc_2
    exact jv_less (ls' := [none, none, none]) trivial (hJ10 _ h)
  · replace h := h2_2 hc_2
    refine jv_iload_n C dX8_needRange_5 rfl ?_
    refine jv_iload_n C dX8_needRange_6 rfl ?_
    obtain ⟨hr_7, h1_7, h2_7⟩ := h
    refine jv_icmp_le (tgt := 21) C hr_7.1 hr_7.2 dX8_needRange_7 rfl (fun hc_7 => ?_) (fun hc_7 => ?_)
    · replace h := h1_7 hc_7
      exact jv_xret (jv_vret C hr hlk ⟨rfl, h⟩ dX8_needRange_21 ⟨rfl, rfl⟩)
    · replace h := h2_7 hc_7
      exact jv_less (ls' := [none, none, none]) trivial (hJ10 _ h)

def wB_X8_addWord_46 (Qx : String → jv_Mem → Prop) (gj_46 : jv_Mem) : Prop :=
  Qx "java/lang/IllegalStateException" gj_46
def wp_X8_addWord (a1 : Int) (Q : Int → jv_Mem → Prop) (Qx : String → jv_Mem → Prop) (g : jv_Mem) : Prop :=
  (wp_X8_needRange a1 0 99 (fun (g_4 : jv_Mem) => (wp_X5_isFull (fun (r_11 : Int) (g_11 : jv_Mem) => ((jv_r r_11) ∧ (r_11 = 0 → wB_X8_addWord_46 Qx g_11) ∧ (¬ r_11 = 0 → (wp_X5_code (fun (r_25 : Int) (g_25 : jv_Mem) => (wp_X7_beginningWith r_25 (fun (r_28 : Int) (g_28 : jv_Mem) => ((jv_r r_28) ∧ (0 < r_28 → wB_X8_addWord_46 Qx g_28) ∧ (r_28 ≤ 0 → (wp_X7_count (fun (r_38 : Int) (g_38 : jv_Mem) => ((jv_r r_38) ∧ (r_38 < 30 → (wp_X5_code (fun (r_64 : Int) (g_64 : jv_Mem) => (wp_X7_add r_64 a1 (fun (r_68 : Int) (g_68 : jv_Mem) => Q r_68 g_68) g_64)) g_38)) ∧ (30 ≤ r_38 → wB_X8_addWord_46 Qx g_38))) g_28)))) g_25)) g_11)))) g_4)) (fun (E : String) (gx : jv_Mem) => Qx E gx) g)
set_option maxHeartbeats 4000000 in
set_option maxRecDepth 100000 in
theorem M_X8_addWord {l : Launch} {s0 : State} {b0 : Addr} {D : va_G} {ids : Nat → ClassId} {g : jv_Mem} {a1 : Int} {Q : Int → jv_Mem → Prop} {Qx : String → jv_Mem → Prop} (hT : jv_T l s0 b0) (h : wp_X8_addWord a1 Q Qx g) : jv_MX l s0 b0 D ids yX8_addWord cX8_addWord 2 (some .int) 7 117 2 12 jv_SH g [.ref (s0.heap.size + (0 : Int).toNat), jv_i a1] (jv_qi Q) Qx := by
  refine jv_MX.of (by decide +kernel) rfl rfl (fun p e s m args below meth c C hml hr hlk hxt => ?_)
  replace C : jv_C p s m args c cX8_addWord RX8 s0 b0 D ids := C
  show jv_V p l e (jv_rm 7 117 2 12) s m args below meth c 0 0 (jv_ZX below s0 D ids jv_SH (jv_qi Q) Qx args s 2 12) s0 D ids none jv_SH g 0 [some (.ref (s0.heap.size + (0 : Int).toNat)), some (jv_i a1)] []
  unfold wp_X8_addWord at h
  refine jv_iload_n C dX8_addWord_0 rfl ?_
  refine jv_const C dX8_addWord_1 ?_
  refine jv_bipush C dX8_addWord_2 (by decide +kernel) ?_
  refine jv_callSXv C (M_X8_needRange hT h) kw_X8_107 rfl ⟨rfl, rfl⟩ (st := []) rfl rfl ⟨rfl, rfl⟩ dX8_addWord_4 (fun g_4 h => ?_) (fun E gx h => ?_)
  rotate_left 1
  · exact jv_xout hxt hlk h ⟨rfl, rfl⟩
  refine jv_aload_n C dX8_addWord_7 rfl ?_
  refine jv_getr C kf_X8_10 sS_0 rfl dX8_addWord_8 ?_
  refine jv_callVi C (M_X5_isFull h) kw_X8_111 sS_1 rfl rfl ⟨rfl, rfl⟩ (st := []) rfl rfl ⟨rfl, rfl⟩ dX8_addWord_11 (fun r_11 g_11 h => ?_)
  have hJ46 : ∀ (gj_46 : jv_Mem), wB_X8_addWord_46 Qx gj_46 → jv_V p l e (jv_rm 7 117 2 12) s m args below meth c 1 6 (jv_ZX below s0 D ids jv_SH (jv_qi Q) Qx args s 2 12) s0 D ids none jv_SH gj_46 46 [none, none] [] := by
    intro gj_46 h
    unfold wB_X8_addWord_46 at h
    exact jt_X8_addWord C hT hlk hxt ⟨rfl, rfl⟩ ⟨rfl, rfl⟩ h ⟨rfl, rfl⟩
  obtain ⟨hr_14, h1_14, h2_14⟩ := h
  refine jv_if_eq (tgt := 46) C hr_14 dX8_addWord_14 rfl (fun hc_14 => ?_) (fun hc_14 => ?_)
  · replace h := h1_14 hc_14
    exact jv_less (ls' := [none, none]) trivial (hJ46 _ h)
  · replace h := h2_14 hc_14
    refine jv_aload_n C dX8_addWord_17 rfl ?_
    refine jv_getr C kf_X8_19 sS_0 rfl dX8_addWord_18 ?_
    refine jv_aload_n C dX8_addWord_21 rfl ?_
    refine jv_getr C kf_X8_10 sS_0 rfl dX8_addWord_22 ?_
    refine jv_callVi C (M_X5_code h) kw_X8_115 sS_1 rfl rfl ⟨rfl, rfl⟩ (st := [.ref (s0.heap.size + (3 : Int).toNat)]) rfl rfl ⟨rfl, rfl⟩ dX8_addWord_25 (fun r_25 g_25 h => ?_)
    refine jv_callVi C (M_X7_beginningWith h) kw_X8_118 sS_3 rfl rfl ⟨rfl, rfl⟩ (st := []) rfl rfl ⟨rfl, rfl⟩ dX8_addWord_28 (fun r_28 g_28 h => ?_)
    obtain ⟨hr_31, h1_31, h2_31⟩ := h
    refine jv_if_gt (tgt := 46) C hr_31 dX8_addWord_31 rfl (fun hc_31 => ?_) (fun hc_31 => ?_)
    · replace h := h1_31 hc_31
      exact jv_less (ls' := [none, none]) trivial (hJ46 _ h)
    · replace h := h2_31 hc_31
      refine jv_aload_n C dX8_addWord_34 rfl ?_
      refine jv_getr C kf_X8_19 sS_0 rfl dX8_addWord_35 ?_
      refine jv_callVi C (M_X7_count h) kw_X8_121 sS_3 rfl rfl ⟨rfl, rfl⟩ (st := []) rfl rfl ⟨rfl, rfl⟩ dX8_addWord_38 (fun r_38 g_38 h => ?_)
      refine jv_bipush C dX8_addWord_41 (by decide +kernel) ?_
      obtain ⟨hr_43, h1_43, h2_43⟩ := h
      refine jv_icmp_lt (tgt := 56) C hr_43 ⟨by decide, by decide⟩ dX8_addWord_43 rfl (fun hc_43 => ?_) (fun hc_43 => ?_)
      · replace h := h1_43 hc_43
        refine jv_aload_n C dX8_addWord_56 rfl ?_
        refine jv_getr C kf_X8_19 sS_0 rfl dX8_addWord_57 ?_
        refine jv_aload_n C dX8_addWord_60 rfl ?_
        refine jv_getr C kf_X8_10 sS_0 rfl dX8_addWord_61 ?_
        refine jv_callVi C (M_X5_code h) kw_X8_115 sS_1 rfl rfl ⟨rfl, rfl⟩ (st := [.ref (s0.heap.size + (3 : Int).toNat)]) rfl rfl ⟨rfl, rfl⟩ dX8_addWord_64 (fun r_64 g_64 h => ?_)
        refine jv_iload_n C dX8_addWord_67 rfl ?_
        refine jv_callVi C (M_X7_add h) kw_X8_129 sS_3 rfl rfl ⟨rfl, rfl⟩ (st := []) rfl rfl ⟨rfl, rfl⟩ dX8_addWord_68 (fun r_68 g_68 h => ?_)
        exact jv_xret (jv_iret C hr hlk ⟨_, rfl, h⟩ dX8_addWord_71 ⟨rfl, rfl⟩)
      · replace h := h2_43 hc_43
        exact jv_less (ls' := [none, none]) trivial (hJ46 _ h)

def wp_X8_setWeight (a1 : Int) (a2 : Int) (Q : Int → jv_Mem → Prop) (Qx : String → jv_Mem → Prop) (g : jv_Mem) : Prop :=
  (wp_X7_count (fun (r_5 : Int) (g_5 : jv_Mem) => (wp_X8_needIndex a1 r_5 (fun (g_8 : jv_Mem) => (wp_X8_needRange a2 0 99 (fun (g_15 : jv_Mem) => (wp_X7_weight a1 (fun (r_23 : Int) (g_23 : jv_Mem) => (wp_X7_weigh a1 a2 (fun (g_33 : jv_Mem) => Q r_23 g_33) g_23)) g_15)) (fun (E : String) (gx : jv_Mem) => Qx E gx) g_8)) (fun (E : String) (gx : jv_Mem) => Qx E gx) g_5)) g)
set_option maxHeartbeats 4000000 in
set_option maxRecDepth 100000 in
theorem M_X8_setWeight {l : Launch} {s0 : State} {b0 : Addr} {D : va_G} {ids : Nat → ClassId} {g : jv_Mem} {a1 : Int} {a2 : Int} {Q : Int → jv_Mem → Prop} {Qx : String → jv_Mem → Prop} (hT : jv_T l s0 b0) (h : wp_X8_setWeight a1 a2 Q Qx g) : jv_MX l s0 b0 D ids yX8_setWeight cX8_setWeight 4 (some .int) 7 117 2 12 jv_SH g [.ref (s0.heap.size + (0 : Int).toNat), jv_i a1, jv_i a2] (jv_qi Q) Qx := by
  refine jv_MX.of (by decide +kernel) rfl rfl (fun p e s m args below meth c C hml hr hlk hxt => ?_)
  replace C : jv_C p s m args c cX8_setWeight RX8 s0 b0 D ids := C
  show jv_V p l e (jv_rm 7 117 2 12) s m args below meth c 0 0 (jv_ZX below s0 D ids jv_SH (jv_qi Q) Qx args s 2 12) s0 D ids none jv_SH g 0 [some (.ref (s0.heap.size + (0 : Int).toNat)), some (jv_i a1), some (jv_i a2), none] []
  unfold wp_X8_setWeight at h
  refine jv_iload_n C dX8_setWeight_0 rfl ?_
  refine jv_aload_n C dX8_setWeight_1 rfl ?_
  refine jv_getr C kf_X8_19 sS_0 rfl dX8_setWeight_2 ?_
  refine jv_callVi C (M_X7_count h) kw_X8_121 sS_3 rfl rfl ⟨rfl, rfl⟩ (st := [jv_i a1]) rfl rfl ⟨rfl, rfl⟩ dX8_setWeight_5 (fun r_5 g_5 h => ?_)
  refine jv_callSXv C (M_X8_needIndex hT h) kw_X8_69 rfl ⟨rfl, rfl⟩ (st := []) rfl rfl ⟨rfl, rfl⟩ dX8_setWeight_8 (fun g_8 h => ?_) (fun E gx h => ?_)
  rotate_left 1
  · exact jv_xout hxt hlk h ⟨rfl, rfl⟩
  refine jv_iload_n C dX8_setWeight_11 rfl ?_
  refine jv_const C dX8_setWeight_12 ?_
  refine jv_bipush C dX8_setWeight_13 (by decide +kernel) ?_
  refine jv_callSXv C (M_X8_needRange hT h) kw_X8_107 rfl ⟨rfl, rfl⟩ (st := []) rfl rfl ⟨rfl, rfl⟩ dX8_setWeight_15 (fun g_15 h => ?_) (fun E gx h => ?_)
  rotate_left 1
  · exact jv_xout hxt hlk h ⟨rfl, rfl⟩
  refine jv_aload_n C dX8_setWeight_18 rfl ?_
  refine jv_getr C kf_X8_19 sS_0 rfl dX8_setWeight_19 ?_
  refine jv_iload_n C dX8_setWeight_22 rfl ?_
  refine jv_callVi C (M_X7_weight h) kw_X8_133 sS_3 rfl rfl ⟨rfl, rfl⟩ (st := []) rfl rfl ⟨rfl, rfl⟩ dX8_setWeight_23 (fun r_23 g_23 h => ?_)
  refine jv_istore_n (ls' := [some (.ref (s0.heap.size + (0 : Int).toNat)), some (jv_i a1), some (jv_i a2), some (jv_i r_23)]) C dX8_setWeight_26 (Nat.lt_of_lt_of_eq (Nat.le_of_ble_eq_true rfl) hml) rfl ?_
  refine jv_aload_n C dX8_setWeight_27 rfl ?_
  refine jv_getr C kf_X8_19 sS_0 rfl dX8_setWeight_28 ?_
  refine jv_iload_n C dX8_setWeight_31 rfl ?_
  refine jv_iload_n C dX8_setWeight_32 rfl ?_
  refine jv_callVv C (M_X7_weigh h) kw_X8_136 sS_3 rfl rfl ⟨rfl, rfl⟩ (st := []) rfl rfl ⟨rfl, rfl⟩ dX8_setWeight_33 (fun g_33 h => ?_)
  refine jv_iload_n C dX8_setWeight_36 rfl ?_
  exact jv_xret (jv_iret C hr hlk ⟨_, rfl, h⟩ dX8_setWeight_37 ⟨rfl, rfl⟩)

def wB_X8_fix_17 (a1 : Int) (a2 : Int) (Q : Int → jv_Mem → Prop) (gj_17 : jv_Mem) : Prop :=
  (wp_X6_fixedLetter a1 (fun (r_22 : Int) (g_22 : jv_Mem) => (wp_X6_setFixed a1 a2 (fun (g_32 : jv_Mem) => Q r_22 g_32) g_22)) gj_17)
def wp_X8_fix (a1 : Int) (a2 : Int) (Q : Int → jv_Mem → Prop) (Qx : String → jv_Mem → Prop) (g : jv_Mem) : Prop :=
  (wp_X8_needIndex a1 9 (fun (g_3 : jv_Mem) => ((jv_r a2) ∧ (a2 = ((-1)) → wB_X8_fix_17 a1 a2 Q g_3) ∧ (¬ a2 = ((-1)) → (wp_X8_needIndex a2 9 (fun (g_14 : jv_Mem) => wB_X8_fix_17 a1 a2 Q g_14) (fun (E : String) (gx : jv_Mem) => Qx E gx) g_3)))) (fun (E : String) (gx : jv_Mem) => Qx E gx) g)
set_option maxHeartbeats 4000000 in
set_option maxRecDepth 100000 in
theorem M_X8_fix {l : Launch} {s0 : State} {b0 : Addr} {D : va_G} {ids : Nat → ClassId} {g : jv_Mem} {a1 : Int} {a2 : Int} {Q : Int → jv_Mem → Prop} {Qx : String → jv_Mem → Prop} (hT : jv_T l s0 b0) (h : wp_X8_fix a1 a2 Q Qx g) : jv_MX l s0 b0 D ids yX8_fix cX8_fix 4 (some .int) 7 116 2 12 jv_SH g [.ref (s0.heap.size + (0 : Int).toNat), jv_i a1, jv_i a2] (jv_qi Q) Qx := by
  refine jv_MX.of (by decide +kernel) rfl rfl (fun p e s m args below meth c C hml hr hlk hxt => ?_)
  replace C : jv_C p s m args c cX8_fix RX8 s0 b0 D ids := C
  show jv_V p l e (jv_rm 7 116 2 12) s m args below meth c 0 0 (jv_ZX below s0 D ids jv_SH (jv_qi Q) Qx args s 2 12) s0 D ids none jv_SH g 0 [some (.ref (s0.heap.size + (0 : Int).toNat)), some (jv_i a1), some (jv_i a2), none] []
  unfold wp_X8_fix at h
  refine jv_iload_n C dX8_fix_0 rfl ?_
  refine jv_bipush C dX8_fix_1 (by decide +kernel) ?_
  refine jv_callSXv C (M_X8_needIndex hT h) kw_X8_69 rfl ⟨rfl, rfl⟩ (st := []) rfl rfl ⟨rfl, rfl⟩ dX8_fix_3 (fun g_3 h => ?_) (fun E gx h => ?_)
  rotate_left 1
  · exact jv_xout hxt hlk h ⟨rfl, rfl⟩
  refine jv_iload_n C dX8_fix_6 rfl ?_
  refine jv_const C dX8_fix_7 ?_
  have hJ17 : ∀ (gj_17 : jv_Mem), wB_X8_fix_17 a1 a2 Q gj_17 → jv_V p l e (jv_rm 7 116 2 12) s m args below meth c 2 12 (jv_ZX below s0 D ids jv_SH (jv_qi Q) Qx args s 2 12) s0 D ids none jv_SH gj_17 17 [some (.ref (s0.heap.size + (0 : Int).toNat)), some (jv_i a1), some (jv_i a2), none] [] := by
    intro gj_17 h
    unfold wB_X8_fix_17 at h
    refine jv_aload_n C dX8_fix_17 rfl ?_
    refine jv_getr C kf_X8_26 sS_0 rfl dX8_fix_18 ?_
    refine jv_iload_n C dX8_fix_21 rfl ?_
    refine jv_callVi C (M_X6_fixedLetter h) kw_X8_146 sS_10 rfl rfl ⟨rfl, rfl⟩ (st := []) rfl rfl ⟨rfl, rfl⟩ dX8_fix_22 (fun r_22 g_22 h => ?_)
    refine jv_istore_n (ls' := [some (.ref (s0.heap.size + (0 : Int).toNat)), some (jv_i a1), some (jv_i a2), some (jv_i r_22)]) C dX8_fix_25 (Nat.lt_of_lt_of_eq (Nat.le_of_ble_eq_true rfl) hml) rfl ?_
    refine jv_aload_n C dX8_fix_26 rfl ?_
    refine jv_getr C kf_X8_26 sS_0 rfl dX8_fix_27 ?_
    refine jv_iload_n C dX8_fix_30 rfl ?_
    refine jv_iload_n C dX8_fix_31 rfl ?_
    refine jv_callVv C (M_X6_setFixed h) kw_X8_149 sS_10 rfl rfl ⟨rfl, rfl⟩ (st := []) rfl rfl ⟨rfl, rfl⟩ dX8_fix_32 (fun g_32 h => ?_)
    refine jv_iload_n C dX8_fix_35 rfl ?_
    exact jv_xret (jv_iret C hr hlk ⟨_, rfl, h⟩ dX8_fix_36 ⟨rfl, rfl⟩)
  obtain ⟨hr_8, h1_8, h2_8⟩ := h
  refine jv_icmp_eq (tgt := 17) C hr_8 ⟨by decide, by decide⟩ dX8_fix_8 rfl (fun hc_8 => ?_) (fun hc_8 => ?_)
  · replace h := h1_8 hc_8
    refine jv_wd (k := 2) (n := 12) rfl rfl ?_
    exact jv_less (ls' := [some (.ref (s0.heap.size + (0 : Int).toNat)), some (jv_i a1), some (jv_i a2), none]) ⟨rfl, ⟨rfl, ⟨rfl, trivial⟩⟩⟩ (hJ17 _ h)
  · replace h := h2_8 hc_8
    refine jv_iload_n C dX8_fix_11 rfl ?_
    refine jv_bipush C dX8_fix_12 (by decide +kernel) ?_
    refine jv_callSXv C (M_X8_needIndex hT h) kw_X8_69 rfl ⟨rfl, rfl⟩ (st := []) rfl rfl ⟨rfl, rfl⟩ dX8_fix_14 (fun g_14 h => ?_) (fun E gx h => ?_)
    rotate_left 1
    · exact jv_xout hxt hlk h ⟨rfl, rfl⟩
    exact jv_less (ls' := [some (.ref (s0.heap.size + (0 : Int).toNat)), some (jv_i a1), some (jv_i a2), none]) ⟨rfl, ⟨rfl, ⟨rfl, trivial⟩⟩⟩ (hJ17 _ h)

def wp_X8_fillAt (a1 : Int) (Q : Int → jv_Mem → Prop) (Qx : String → jv_Mem → Prop) (g : jv_Mem) : Prop :=
  (wp_X8_needIndex a1 9 (fun (g_3 : jv_Mem) => (wp_X6_search (fun (g_14 : jv_Mem) => (wp_X6_bestWeight (fun (r_21 : Int) (g_21 : jv_Mem) => ((jv_r r_21) ∧ (¬ r_21 = ((-1)) → (wp_X6_bestLetter a1 (fun (r_47 : Int) (g_47 : jv_Mem) => Q r_47 g_47) g_21)) ∧ (r_21 = ((-1)) → Qx "java/util/NoSuchElementException" g_21))) g_14)) g_3)) (fun (E : String) (gx : jv_Mem) => Qx E gx) g)
set_option maxHeartbeats 4000000 in
set_option maxRecDepth 100000 in
theorem M_X8_fillAt {l : Launch} {s0 : State} {b0 : Addr} {D : va_G} {ids : Nat → ClassId} {g : jv_Mem} {a1 : Int} {Q : Int → jv_Mem → Prop} {Qx : String → jv_Mem → Prop} (hT : jv_T l s0 b0) (h : wp_X8_fillAt a1 Q Qx g) : jv_MX l s0 b0 D ids yX8_fillAt cX8_fillAt 2 (some .int) 7 116 2 12 jv_SH g [.ref (s0.heap.size + (0 : Int).toNat), jv_i a1] (jv_qi Q) Qx := by
  refine jv_MX.of (by decide +kernel) rfl rfl (fun p e s m args below meth c C hml hr hlk hxt => ?_)
  replace C : jv_C p s m args c cX8_fillAt RX8 s0 b0 D ids := C
  show jv_V p l e (jv_rm 7 116 2 12) s m args below meth c 0 0 (jv_ZX below s0 D ids jv_SH (jv_qi Q) Qx args s 2 12) s0 D ids none jv_SH g 0 [some (.ref (s0.heap.size + (0 : Int).toNat)), some (jv_i a1)] []
  unfold wp_X8_fillAt at h
  refine jv_iload_n C dX8_fillAt_0 rfl ?_
  refine jv_bipush C dX8_fillAt_1 (by decide +kernel) ?_
  refine jv_callSXv C (M_X8_needIndex hT h) kw_X8_69 rfl ⟨rfl, rfl⟩ (st := []) rfl rfl ⟨rfl, rfl⟩ dX8_fillAt_3 (fun g_3 h => ?_) (fun E gx h => ?_)
  rotate_left 1
  · exact jv_xout hxt hlk h ⟨rfl, rfl⟩
  refine jv_aload_n C dX8_fillAt_6 rfl ?_
  refine jv_getr C kf_X8_26 sS_0 rfl dX8_fillAt_7 ?_
  refine jv_aload_n C dX8_fillAt_10 rfl ?_
  refine jv_getr C kf_X8_19 sS_0 rfl dX8_fillAt_11 ?_
  refine jv_callVv C (M_X6_search h) kw_X8_152 sS_10 rfl rfl ⟨rfl, rfl⟩ (st := []) rfl rfl ⟨rfl, rfl⟩ dX8_fillAt_14 (fun g_14 h => ?_)
  refine jv_aload_n C dX8_fillAt_17 rfl ?_
  refine jv_getr C kf_X8_26 sS_0 rfl dX8_fillAt_18 ?_
  refine jv_callVi C (M_X6_bestWeight h) kw_X8_156 sS_10 rfl rfl ⟨rfl, rfl⟩ (st := []) rfl rfl ⟨rfl, rfl⟩ dX8_fillAt_21 (fun r_21 g_21 h => ?_)
  refine jv_const C dX8_fillAt_24 ?_
  obtain ⟨hr_25, h1_25, h2_25⟩ := h
  refine jv_icmp_ne (tgt := 38) C hr_25 ⟨by decide, by decide⟩ dX8_fillAt_25 rfl (fun hc_25 => ?_) (fun hc_25 => ?_)
  · replace h := h1_25 hc_25
    refine jv_aload_n C dX8_fillAt_38 rfl ?_
    refine jv_getr C kf_X8_26 sS_0 rfl dX8_fillAt_39 ?_
    refine jv_aload_n C dX8_fillAt_42 rfl ?_
    refine jv_getr C kf_X8_19 sS_0 rfl dX8_fillAt_43 ?_
    refine jv_iload_n C dX8_fillAt_46 rfl ?_
    refine jv_callVi C (M_X6_bestLetter h) kw_X8_168 sS_10 rfl rfl ⟨rfl, rfl⟩ (st := []) rfl rfl ⟨rfl, rfl⟩ dX8_fillAt_47 (fun r_47 g_47 h => ?_)
    exact jv_xret (jv_iret C hr hlk ⟨_, rfl, h⟩ dX8_fillAt_50 ⟨rfl, rfl⟩)
  · replace h := h2_25 hc_25
    exact jt_X8_fillAt C hT hlk hxt ⟨rfl, rfl⟩ ⟨rfl, rfl⟩ h ⟨rfl, rfl⟩

def wp_X8_clue (a1 : Int) (Q : Int → jv_Mem → Prop) (Qx : String → jv_Mem → Prop) (g : jv_Mem) : Prop :=
  (wp_X7_count (fun (r_5 : Int) (g_5 : jv_Mem) => (wp_X8_needIndex a1 r_5 (fun (g_8 : jv_Mem) => (wp_X0_count (fun (r_15 : Int) (g_15 : jv_Mem) => ((jv_r r_15) ∧ (r_15 < 60 → (wp_X0_add a1 (fun (r_38 : Int) (g_38 : jv_Mem) => Q r_38 g_38) g_15)) ∧ (60 ≤ r_15 → Qx "java/lang/IllegalStateException" g_15))) g_8)) (fun (E : String) (gx : jv_Mem) => Qx E gx) g_5)) g)
set_option maxHeartbeats 4000000 in
set_option maxRecDepth 100000 in
theorem M_X8_clue {l : Launch} {s0 : State} {b0 : Addr} {D : va_G} {ids : Nat → ClassId} {g : jv_Mem} {a1 : Int} {Q : Int → jv_Mem → Prop} {Qx : String → jv_Mem → Prop} (hT : jv_T l s0 b0) (h : wp_X8_clue a1 Q Qx g) : jv_MX l s0 b0 D ids yX8_clue cX8_clue 2 (some .int) 7 116 2 12 jv_SH g [.ref (s0.heap.size + (0 : Int).toNat), jv_i a1] (jv_qi Q) Qx := by
  refine jv_MX.of (by decide +kernel) rfl rfl (fun p e s m args below meth c C hml hr hlk hxt => ?_)
  replace C : jv_C p s m args c cX8_clue RX8 s0 b0 D ids := C
  show jv_V p l e (jv_rm 7 116 2 12) s m args below meth c 0 0 (jv_ZX below s0 D ids jv_SH (jv_qi Q) Qx args s 2 12) s0 D ids none jv_SH g 0 [some (.ref (s0.heap.size + (0 : Int).toNat)), some (jv_i a1)] []
  unfold wp_X8_clue at h
  refine jv_iload_n C dX8_clue_0 rfl ?_
  refine jv_aload_n C dX8_clue_1 rfl ?_
  refine jv_getr C kf_X8_19 sS_0 rfl dX8_clue_2 ?_
  refine jv_callVi C (M_X7_count h) kw_X8_121 sS_3 rfl rfl ⟨rfl, rfl⟩ (st := [jv_i a1]) rfl rfl ⟨rfl, rfl⟩ dX8_clue_5 (fun r_5 g_5 h => ?_)
  refine jv_callSXv C (M_X8_needIndex hT h) kw_X8_69 rfl ⟨rfl, rfl⟩ (st := []) rfl rfl ⟨rfl, rfl⟩ dX8_clue_8 (fun g_8 h => ?_) (fun E gx h => ?_)
  rotate_left 1
  · exact jv_xout hxt hlk h ⟨rfl, rfl⟩
  refine jv_aload_n C dX8_clue_11 rfl ?_
  refine jv_getr C kf_X8_33 sS_0 rfl dX8_clue_12 ?_
  refine jv_callVi C (M_X0_count h) kw_X8_172 sS_14 rfl rfl ⟨rfl, rfl⟩ (st := []) rfl rfl ⟨rfl, rfl⟩ dX8_clue_15 (fun r_15 g_15 h => ?_)
  refine jv_bipush C dX8_clue_18 (by decide +kernel) ?_
  obtain ⟨hr_20, h1_20, h2_20⟩ := h
  refine jv_icmp_lt (tgt := 33) C hr_20 ⟨by decide, by decide⟩ dX8_clue_20 rfl (fun hc_20 => ?_) (fun hc_20 => ?_)
  · replace h := h1_20 hc_20
    refine jv_aload_n C dX8_clue_33 rfl ?_
    refine jv_getr C kf_X8_33 sS_0 rfl dX8_clue_34 ?_
    refine jv_iload_n C dX8_clue_37 rfl ?_
    refine jv_callVi C (M_X0_add h) kw_X8_175 sS_14 rfl rfl ⟨rfl, rfl⟩ (st := []) rfl rfl ⟨rfl, rfl⟩ dX8_clue_38 (fun r_38 g_38 h => ?_)
    exact jv_xret (jv_iret C hr hlk ⟨_, rfl, h⟩ dX8_clue_41 ⟨rfl, rfl⟩)
  · replace h := h2_20 hc_20
    exact jt_X8_clue C hT hlk hxt ⟨rfl, rfl⟩ ⟨rfl, rfl⟩ h ⟨rfl, rfl⟩

def wp_X8_edit (a1 : Int) (a2 : Int) (Q : Int → jv_Mem → Prop) (Qx : String → jv_Mem → Prop) (g : jv_Mem) : Prop :=
  (wp_X0_count (fun (r_5 : Int) (g_5 : jv_Mem) => (wp_X8_needIndex a1 r_5 (fun (g_8 : jv_Mem) => (wp_X0_isReady a1 (fun (r_16 : Int) (g_16 : jv_Mem) => ((jv_r r_16) ∧ (r_16 = 0 → (wp_X0_look a1 a2 (fun (r_38 : Int) (g_38 : jv_Mem) => Q r_38 g_38) g_16)) ∧ (¬ r_16 = 0 → Qx "java/lang/IllegalStateException" g_16))) g_8)) (fun (E : String) (gx : jv_Mem) => Qx E gx) g_5)) g)
set_option maxHeartbeats 4000000 in
set_option maxRecDepth 100000 in
theorem M_X8_edit {l : Launch} {s0 : State} {b0 : Addr} {D : va_G} {ids : Nat → ClassId} {g : jv_Mem} {a1 : Int} {a2 : Int} {Q : Int → jv_Mem → Prop} {Qx : String → jv_Mem → Prop} (hT : jv_T l s0 b0) (h : wp_X8_edit a1 a2 Q Qx g) : jv_MX l s0 b0 D ids yX8_edit cX8_edit 3 (some .int) 7 116 2 12 jv_SH g [.ref (s0.heap.size + (0 : Int).toNat), jv_i a1, jv_i a2] (jv_qi Q) Qx := by
  refine jv_MX.of (by decide +kernel) rfl rfl (fun p e s m args below meth c C hml hr hlk hxt => ?_)
  replace C : jv_C p s m args c cX8_edit RX8 s0 b0 D ids := C
  show jv_V p l e (jv_rm 7 116 2 12) s m args below meth c 0 0 (jv_ZX below s0 D ids jv_SH (jv_qi Q) Qx args s 2 12) s0 D ids none jv_SH g 0 [some (.ref (s0.heap.size + (0 : Int).toNat)), some (jv_i a1), some (jv_i a2)] []
  unfold wp_X8_edit at h
  refine jv_iload_n C dX8_edit_0 rfl ?_
  refine jv_aload_n C dX8_edit_1 rfl ?_
  refine jv_getr C kf_X8_33 sS_0 rfl dX8_edit_2 ?_
  refine jv_callVi C (M_X0_count h) kw_X8_172 sS_14 rfl rfl ⟨rfl, rfl⟩ (st := [jv_i a1]) rfl rfl ⟨rfl, rfl⟩ dX8_edit_5 (fun r_5 g_5 h => ?_)
  refine jv_callSXv C (M_X8_needIndex hT h) kw_X8_69 rfl ⟨rfl, rfl⟩ (st := []) rfl rfl ⟨rfl, rfl⟩ dX8_edit_8 (fun g_8 h => ?_) (fun E gx h => ?_)
  rotate_left 1
  · exact jv_xout hxt hlk h ⟨rfl, rfl⟩
  refine jv_aload_n C dX8_edit_11 rfl ?_
  refine jv_getr C kf_X8_33 sS_0 rfl dX8_edit_12 ?_
  refine jv_iload_n C dX8_edit_15 rfl ?_
  refine jv_callVi C (M_X0_isReady h) kw_X8_177 sS_14 rfl rfl ⟨rfl, rfl⟩ (st := []) rfl rfl ⟨rfl, rfl⟩ dX8_edit_16 (fun r_16 g_16 h => ?_)
  obtain ⟨hr_19, h1_19, h2_19⟩ := h
  refine jv_if_eq (tgt := 32) C hr_19 dX8_edit_19 rfl (fun hc_19 => ?_) (fun hc_19 => ?_)
  · replace h := h1_19 hc_19
    refine jv_aload_n C dX8_edit_32 rfl ?_
    refine jv_getr C kf_X8_33 sS_0 rfl dX8_edit_33 ?_
    refine jv_iload_n C dX8_edit_36 rfl ?_
    refine jv_iload_n C dX8_edit_37 rfl ?_
    refine jv_callVi C (M_X0_look h) kw_X8_183 sS_14 rfl rfl ⟨rfl, rfl⟩ (st := []) rfl rfl ⟨rfl, rfl⟩ dX8_edit_38 (fun r_38 g_38 h => ?_)
    exact jv_xret (jv_iret C hr hlk ⟨_, rfl, h⟩ dX8_edit_41 ⟨rfl, rfl⟩)
  · replace h := h2_19 hc_19
    exact jt_X8_edit C hT hlk hxt ⟨rfl, rfl⟩ ⟨rfl, rfl⟩ h ⟨rfl, rfl⟩

def wp_X8_lastUsed (a1 : Int) (Q : Int → jv_Mem → Prop) (Qx : String → jv_Mem → Prop) (g : jv_Mem) : Prop :=
  (wp_X0_count (fun (r_5 : Int) (g_5 : jv_Mem) => (wp_X8_needIndex a1 r_5 (fun (g_8 : jv_Mem) => (wp_X0_lastDay a1 (fun (r_16 : Int) (g_16 : jv_Mem) => Q r_16 g_16) g_8)) (fun (E : String) (gx : jv_Mem) => Qx E gx) g_5)) g)
set_option maxHeartbeats 4000000 in
set_option maxRecDepth 100000 in
theorem M_X8_lastUsed {l : Launch} {s0 : State} {b0 : Addr} {D : va_G} {ids : Nat → ClassId} {g : jv_Mem} {a1 : Int} {Q : Int → jv_Mem → Prop} {Qx : String → jv_Mem → Prop} (hT : jv_T l s0 b0) (h : wp_X8_lastUsed a1 Q Qx g) : jv_MX l s0 b0 D ids yX8_lastUsed cX8_lastUsed 2 (some .int) 7 116 1 6 jv_SH g [.ref (s0.heap.size + (0 : Int).toNat), jv_i a1] (jv_qi Q) Qx := by
  refine jv_MX.of (by decide +kernel) rfl rfl (fun p e s m args below meth c C hml hr hlk hxt => ?_)
  replace C : jv_C p s m args c cX8_lastUsed RX8 s0 b0 D ids := C
  show jv_V p l e (jv_rm 7 116 1 6) s m args below meth c 0 0 (jv_ZX below s0 D ids jv_SH (jv_qi Q) Qx args s 1 6) s0 D ids none jv_SH g 0 [some (.ref (s0.heap.size + (0 : Int).toNat)), some (jv_i a1)] []
  unfold wp_X8_lastUsed at h
  refine jv_iload_n C dX8_lastUsed_0 rfl ?_
  refine jv_aload_n C dX8_lastUsed_1 rfl ?_
  refine jv_getr C kf_X8_33 sS_0 rfl dX8_lastUsed_2 ?_
  refine jv_callVi C (M_X0_count h) kw_X8_172 sS_14 rfl rfl ⟨rfl, rfl⟩ (st := [jv_i a1]) rfl rfl ⟨rfl, rfl⟩ dX8_lastUsed_5 (fun r_5 g_5 h => ?_)
  refine jv_callSXv C (M_X8_needIndex hT h) kw_X8_69 rfl ⟨rfl, rfl⟩ (st := []) rfl rfl ⟨rfl, rfl⟩ dX8_lastUsed_8 (fun g_8 h => ?_) (fun E gx h => ?_)
  rotate_left 1
  · exact jv_xout hxt hlk h ⟨rfl, rfl⟩
  refine jv_aload_n C dX8_lastUsed_11 rfl ?_
  refine jv_getr C kf_X8_33 sS_0 rfl dX8_lastUsed_12 ?_
  refine jv_iload_n C dX8_lastUsed_15 rfl ?_
  refine jv_callVi C (M_X0_lastDay h) kw_X8_187 sS_14 rfl rfl ⟨rfl, rfl⟩ (st := []) rfl rfl ⟨rfl, rfl⟩ dX8_lastUsed_16 (fun r_16 g_16 h => ?_)
  exact jv_xret (jv_iret C hr hlk ⟨_, rfl, h⟩ dX8_lastUsed_19 ⟨rfl, rfl⟩)

def wp_X8_pass (a1 : Int) (Q : Int → jv_Mem → Prop) (Qx : String → jv_Mem → Prop) (g : jv_Mem) : Prop :=
  (wp_X8_needRange a1 1 2000 (fun (g_5 : jv_Mem) => ((jv_r ((g_5 0 11) + a1)) ∧ (((g_5 0 11) + a1) ≤ 30000 → (∀ g_37 : jv_Mem, g_37 = jv_up g_5 0 11 ((g_5 0 11) + a1) → Q (g_37 0 11) g_37)) ∧ (30000 < ((g_5 0 11) + a1) → Qx "java/lang/IllegalStateException" g_5))) (fun (E : String) (gx : jv_Mem) => Qx E gx) g)
set_option maxHeartbeats 4000000 in
set_option maxRecDepth 100000 in
theorem M_X8_pass {l : Launch} {s0 : State} {b0 : Addr} {D : va_G} {ids : Nat → ClassId} {g : jv_Mem} {a1 : Int} {Q : Int → jv_Mem → Prop} {Qx : String → jv_Mem → Prop} (hT : jv_T l s0 b0) (h : wp_X8_pass a1 Q Qx g) : jv_MX l s0 b0 D ids yX8_pass cX8_pass 2 (some .int) 7 117 2 12 jv_SH g [.ref (s0.heap.size + (0 : Int).toNat), jv_i a1] (jv_qi Q) Qx := by
  refine jv_MX.of (by decide +kernel) rfl rfl (fun p e s m args below meth c C hml hr hlk hxt => ?_)
  replace C : jv_C p s m args c cX8_pass RX8 s0 b0 D ids := C
  show jv_V p l e (jv_rm 7 117 2 12) s m args below meth c 0 0 (jv_ZX below s0 D ids jv_SH (jv_qi Q) Qx args s 2 12) s0 D ids none jv_SH g 0 [some (.ref (s0.heap.size + (0 : Int).toNat)), some (jv_i a1)] []
  unfold wp_X8_pass at h
  refine jv_iload_n C dX8_pass_0 rfl ?_
  refine jv_const C dX8_pass_1 ?_
  refine jv_sipush C dX8_pass_2 (by decide +kernel) ?_
  refine jv_callSXv C (M_X8_needRange hT h) kw_X8_107 rfl ⟨rfl, rfl⟩ (st := []) rfl rfl ⟨rfl, rfl⟩ dX8_pass_5 (fun g_5 h => ?_) (fun E gx h => ?_)
  rotate_left 1
  · exact jv_xout hxt hlk h ⟨rfl, rfl⟩
  refine jv_aload_n C dX8_pass_8 rfl ?_
  refine jv_geti C kf_X8_190 sS_0 rfl dX8_pass_9 ?_
  refine jv_iload_n C dX8_pass_12 rfl ?_
  refine jv_iadd C dX8_pass_13 ?_
  refine jv_sipush C dX8_pass_14 (by decide +kernel) ?_
  obtain ⟨hr_17, h1_17, h2_17⟩ := h
  refine jv_icmp_le (tgt := 30) C hr_17 ⟨by decide, by decide⟩ dX8_pass_17 rfl (fun hc_17 => ?_) (fun hc_17 => ?_)
  · replace h := h1_17 hc_17
    refine jv_aload_n C dX8_pass_30 rfl ?_
    refine jv_dup C rfl dX8_pass_31 ?_
    refine jv_geti C kf_X8_190 sS_0 rfl dX8_pass_32 ?_
    refine jv_iload_n C dX8_pass_35 rfl ?_
    refine jv_iadd C dX8_pass_36 ?_
    refine jv_puti C kf_X8_190 sS_0 rfl dX8_pass_37 (jv_gm (fun g_37 eg_37 => ?_))
    replace h := h g_37 eg_37
    refine jv_aload_n C dX8_pass_40 rfl ?_
    refine jv_geti C kf_X8_190 sS_0 rfl dX8_pass_41 ?_
    exact jv_xret (jv_iret C hr hlk ⟨_, rfl, h⟩ dX8_pass_44 ⟨rfl, rfl⟩)
  · replace h := h2_17 hc_17
    exact jt_X8_pass C hT hlk hxt ⟨rfl, rfl⟩ ⟨rfl, rfl⟩ h ⟨rfl, rfl⟩

def wB_X8_publish_14 (Qx : String → jv_Mem → Prop) (gj_14 : jv_Mem) : Prop :=
  Qx "java/lang/IllegalStateException" gj_14
def wp_X8_publish (Q : Int → jv_Mem → Prop) (Qx : String → jv_Mem → Prop) (g : jv_Mem) : Prop :=
  (wp_X8_mayPublishToday (fun (r_1 : Int) (g_1 : jv_Mem) => ((jv_r r_1) ∧ (r_1 = 0 → wB_X8_publish_14 Qx g_1) ∧ (¬ r_1 = 0 → (wp_X8_findClues (fun (r_8 : Int) (g_8 : jv_Mem) => ((jv_r r_8) ∧ (¬ r_8 = 0 → (((0 : Int) ≤ g_8 0 9 ∧ g_8 0 9 < (20 : Int)) ∧ (wp_X3_appear (30 + 3 * (g_8 0 9)) (g_8 0 11) (fun (g_39 : jv_Mem) => jv_lp1 (fun (K44 : Int → jv_Mem → Prop) (x2_44 : Int) (gl_44 : jv_Mem) => ((jv_r x2_44) ∧ (9 ≤ x2_44 → jv_lp1 (fun (K75 : Int → jv_Mem → Prop) (x2_75 : Int) (gl_75 : jv_Mem) => ((jv_r x2_75) ∧ (6 ≤ x2_75 → (wp_X8_today (fun (r_105 : Int) (g_105 : jv_Mem) => (wp_X0_useChosen r_105 (fun (g_108 : jv_Mem) => (∀ g_118 : jv_Mem, g_118 = jv_up g_108 0 9 ((g_108 0 9) + 1) → Q ((g_118 0 9) - 1) g_118)) g_105)) gl_75)) ∧ (x2_75 < 6 → (wp_X0_chosen x2_75 (fun (r_88 : Int) (g_88 : jv_Mem) => (wp_X3_setClue (30 + 3 * (g_8 0 9)) x2_75 r_88 (fun (g_91 : jv_Mem) => (∀ v2_94 : Int, v2_94 = x2_75 + 1 → K75 v2_94 g_91)) g_88)) gl_75)))) 0 gl_44) ∧ (x2_44 < 9 → (wp_X6_bestLetter x2_44 (fun (r_61 : Int) (g_61 : jv_Mem) => (wp_X3_setLetter (30 + 3 * (g_8 0 9)) x2_44 r_61 (fun (g_64 : jv_Mem) => (∀ v2_67 : Int, v2_67 = x2_44 + 1 → K44 v2_67 g_64)) g_61)) gl_44)))) 0 g_39) g_8))) ∧ (r_8 = 0 → wB_X8_publish_14 Qx g_8))) g_1)))) g)
set_option maxHeartbeats 4000000 in
set_option maxRecDepth 100000 in
theorem M_X8_publish {l : Launch} {s0 : State} {b0 : Addr} {D : va_G} {ids : Nat → ClassId} {g : jv_Mem} {Q : Int → jv_Mem → Prop} {Qx : String → jv_Mem → Prop} (hT : jv_T l s0 b0) (h : wp_X8_publish Q Qx g) : jv_MX l s0 b0 D ids yX8_publish cX8_publish 3 (some .int) 6 116 1 6 jv_SH g [.ref (s0.heap.size + (0 : Int).toNat)] (jv_qi Q) Qx := by
  refine jv_MX.of (by decide +kernel) rfl rfl (fun p e s m args below meth c C hml hr hlk hxt => ?_)
  replace C : jv_C p s m args c cX8_publish RX8 s0 b0 D ids := C
  show jv_V p l e (jv_rm 6 116 1 6) s m args below meth c 0 0 (jv_ZX below s0 D ids jv_SH (jv_qi Q) Qx args s 1 6) s0 D ids none jv_SH g 0 [some (.ref (s0.heap.size + (0 : Int).toNat)), none, none] []
  unfold wp_X8_publish at h
  refine jv_aload_n C dX8_publish_0 rfl ?_
  refine jv_callVi C (M_X8_mayPublishToday h) kw_X8_196 sS_0 rfl rfl ⟨rfl, rfl⟩ (st := []) rfl rfl ⟨rfl, rfl⟩ dX8_publish_1 (fun r_1 g_1 h => ?_)
  have hJ14 : ∀ (gj_14 : jv_Mem), wB_X8_publish_14 Qx gj_14 → jv_V p l e (jv_rm 6 116 1 6) s m args below meth c 0 0 (jv_ZX below s0 D ids jv_SH (jv_qi Q) Qx args s 1 6) s0 D ids none jv_SH gj_14 14 [none, none, none] [] := by
    intro gj_14 h
    unfold wB_X8_publish_14 at h
    exact jt_X8_publish C hT hlk hxt ⟨rfl, rfl⟩ ⟨rfl, rfl⟩ h ⟨rfl, rfl⟩
  obtain ⟨hr_4, h1_4, h2_4⟩ := h
  refine jv_if_eq (tgt := 14) C hr_4 dX8_publish_4 rfl (fun hc_4 => ?_) (fun hc_4 => ?_)
  · replace h := h1_4 hc_4
    exact jv_less (ls' := [none, none, none]) trivial (hJ14 _ h)
  · replace h := h2_4 hc_4
    refine jv_aload_n C dX8_publish_7 rfl ?_
    refine jv_callVi C (M_X8_findClues h) kw_X8_199 sS_0 rfl rfl ⟨rfl, rfl⟩ (st := []) rfl rfl ⟨rfl, rfl⟩ dX8_publish_8 (fun r_8 g_8 h => ?_)
    obtain ⟨hr_11, h1_11, h2_11⟩ := h
    refine jv_if_ne (tgt := 24) C hr_11 dX8_publish_11 rfl (fun hc_11 => ?_) (fun hc_11 => ?_)
    · replace h := h1_11 hc_11
      refine jv_aload_n C dX8_publish_24 rfl ?_
      refine jv_getr C kf_X8_39 sS_0 rfl dX8_publish_25 ?_
      refine jv_aload_n C dX8_publish_28 rfl ?_
      refine jv_geti C kf_X8_204 sS_0 rfl dX8_publish_29 ?_
      obtain ⟨hb_32, h⟩ := h
      refine jv_aaldP C hb_32 dX8_publish_32 ?_
      refine jv_astore_n (ls' := [some (.ref (s0.heap.size + (0 : Int).toNat)), some (.ref (s0.heap.size + (30 + 3 * (g_8 0 9) : Int).toNat)), none]) C dX8_publish_33 (Nat.lt_of_lt_of_eq (Nat.le_of_ble_eq_true rfl) hml) rfl ?_
      refine jv_aload_n C dX8_publish_34 rfl ?_
      refine jv_aload_n C dX8_publish_35 rfl ?_
      refine jv_geti C kf_X8_190 sS_0 rfl dX8_publish_36 ?_
      refine jv_callVv C (M_X3_appear (jv_pz hb_32.1 hb_32.2) h) kw_X8_207 (jv_pz hb_32.1 hb_32.2).1 rfl rfl ⟨rfl, rfl⟩ (st := []) rfl rfl ⟨rfl, rfl⟩ dX8_publish_39 (fun g_39 h => ?_)
      refine jv_const C dX8_publish_42 ?_
      refine jv_istore_n (ls' := [some (.ref (s0.heap.size + (0 : Int).toNat)), some (.ref (s0.heap.size + (30 + 3 * (g_8 0 9) : Int).toNat)), some (jv_i 0)]) C dX8_publish_43 (Nat.lt_of_lt_of_eq (Nat.le_of_ble_eq_true rfl) hml) rfl ?_
      refine jv_less (ls' := [some (.ref (s0.heap.size + (0 : Int).toNat)), some (.ref (s0.heap.size + (30 + 3 * (g_8 0 9) : Int).toNat)), some (jv_i 0)]) ⟨rfl, ⟨rfl, ⟨rfl, trivial⟩⟩⟩ ?_
      refine jv_lp1.use h (fun (x2_44 : Int) (gl_44 : jv_Mem) => jv_V p l e (jv_rm 6 116 1 6) s m args below meth c 0 0 (jv_ZX below s0 D ids jv_SH (jv_qi Q) Qx args s 1 6) s0 D ids none jv_SH gl_44 44 [some (.ref (s0.heap.size + (0 : Int).toNat)), some (.ref (s0.heap.size + (30 + 3 * (g_8 0 9) : Int).toNat)), some (jv_i x2_44)] []) ?_
      intro K44 hK44 x2_44 gl_44 h
      refine jv_iload_n C dX8_publish_44 rfl ?_
      refine jv_bipush C dX8_publish_45 (by decide +kernel) ?_
      obtain ⟨hr_47, h1_47, h2_47⟩ := h
      refine jv_icmp_ge (tgt := 73) C hr_47 ⟨by decide, by decide⟩ dX8_publish_47 rfl (fun hc_47 => ?_) (fun hc_47 => ?_)
      · replace h := h1_47 hc_47
        refine jv_const C dX8_publish_73 ?_
        refine jv_istore_n (ls' := [some (.ref (s0.heap.size + (0 : Int).toNat)), some (.ref (s0.heap.size + (30 + 3 * (g_8 0 9) : Int).toNat)), some (jv_i 0)]) C dX8_publish_74 (Nat.lt_of_lt_of_eq (Nat.le_of_ble_eq_true rfl) hml) rfl ?_
        refine jv_less (ls' := [some (.ref (s0.heap.size + (0 : Int).toNat)), some (.ref (s0.heap.size + (30 + 3 * (g_8 0 9) : Int).toNat)), some (jv_i 0)]) ⟨rfl, ⟨rfl, ⟨rfl, trivial⟩⟩⟩ ?_
        refine jv_lp1.use h (fun (x2_75 : Int) (gl_75 : jv_Mem) => jv_V p l e (jv_rm 6 116 1 6) s m args below meth c 0 0 (jv_ZX below s0 D ids jv_SH (jv_qi Q) Qx args s 1 6) s0 D ids none jv_SH gl_75 75 [some (.ref (s0.heap.size + (0 : Int).toNat)), some (.ref (s0.heap.size + (30 + 3 * (g_8 0 9) : Int).toNat)), some (jv_i x2_75)] []) ?_
        intro K75 hK75 x2_75 gl_75 h
        refine jv_iload_n C dX8_publish_75 rfl ?_
        refine jv_bipush C dX8_publish_76 (by decide +kernel) ?_
        obtain ⟨hr_78, h1_78, h2_78⟩ := h
        refine jv_icmp_ge (tgt := 100) C hr_78 ⟨by decide, by decide⟩ dX8_publish_78 rfl (fun hc_78 => ?_) (fun hc_78 => ?_)
        · replace h := h1_78 hc_78
          refine jv_aload_n C dX8_publish_100 rfl ?_
          refine jv_getr C kf_X8_33 sS_0 rfl dX8_publish_101 ?_
          refine jv_aload_n C dX8_publish_104 rfl ?_
          refine jv_callVi C (M_X8_today h) kw_X8_219 sS_0 rfl rfl ⟨rfl, rfl⟩ (st := [.ref (s0.heap.size + (14 : Int).toNat)]) rfl rfl ⟨rfl, rfl⟩ dX8_publish_105 (fun r_105 g_105 h => ?_)
          refine jv_callVv C (M_X0_useChosen h) kw_X8_222 sS_14 rfl rfl ⟨rfl, rfl⟩ (st := []) rfl rfl ⟨rfl, rfl⟩ dX8_publish_108 (fun g_108 h => ?_)
          refine jv_aload_n C dX8_publish_111 rfl ?_
          refine jv_dup C rfl dX8_publish_112 ?_
          refine jv_geti C kf_X8_204 sS_0 rfl dX8_publish_113 ?_
          refine jv_const C dX8_publish_116 ?_
          refine jv_iadd C dX8_publish_117 ?_
          refine jv_puti C kf_X8_204 sS_0 rfl dX8_publish_118 (jv_gm (fun g_118 eg_118 => ?_))
          replace h := h g_118 eg_118
          refine jv_aload_n C dX8_publish_121 rfl ?_
          refine jv_geti C kf_X8_204 sS_0 rfl dX8_publish_122 ?_
          refine jv_const C dX8_publish_125 ?_
          refine jv_isub C dX8_publish_126 ?_
          exact jv_xret (jv_iret C hr hlk ⟨_, rfl, h⟩ dX8_publish_127 ⟨rfl, rfl⟩)
        · replace h := h2_78 hc_78
          refine jv_aload_n C dX8_publish_81 rfl ?_
          refine jv_iload_n C dX8_publish_82 rfl ?_
          refine jv_aload_n C dX8_publish_83 rfl ?_
          refine jv_getr C kf_X8_33 sS_0 rfl dX8_publish_84 ?_
          refine jv_iload_n C dX8_publish_87 rfl ?_
          refine jv_callVi C (M_X0_chosen h) kw_X8_213 sS_14 rfl rfl ⟨rfl, rfl⟩ (st := [jv_i x2_75, .ref (s0.heap.size + (30 + 3 * (g_8 0 9) : Int).toNat)]) rfl rfl ⟨rfl, rfl⟩ dX8_publish_88 (fun r_88 g_88 h => ?_)
          refine jv_callVv C (M_X3_setClue (jv_pz hb_32.1 hb_32.2) h) kw_X8_216 (jv_pz hb_32.1 hb_32.2).1 rfl rfl ⟨rfl, rfl⟩ (st := []) rfl rfl ⟨rfl, rfl⟩ dX8_publish_91 (fun g_91 h => ?_)
          refine jv_iincn C dX8_publish_94 (Nat.lt_of_lt_of_eq (Nat.le_of_ble_eq_true rfl) hml) rfl (fun v2_94 ev2_94 => ?_)
          replace h := h v2_94 ev2_94
          refine jv_lset (ls' := [some (.ref (s0.heap.size + (0 : Int).toNat)), some (.ref (s0.heap.size + (30 + 3 * (g_8 0 9) : Int).toNat)), some (jv_i v2_94)]) rfl ?_
          refine jv_goto (tgt := 75) C dX8_publish_97 rfl ?_
          exact jv_less (ls' := [some (.ref (s0.heap.size + (0 : Int).toNat)), some (.ref (s0.heap.size + (30 + 3 * (g_8 0 9) : Int).toNat)), some (jv_i v2_94)]) ⟨rfl, ⟨rfl, ⟨rfl, trivial⟩⟩⟩ (hK75 _ _ h)
      · replace h := h2_47 hc_47
        refine jv_aload_n C dX8_publish_50 rfl ?_
        refine jv_iload_n C dX8_publish_51 rfl ?_
        refine jv_aload_n C dX8_publish_52 rfl ?_
        refine jv_getr C kf_X8_26 sS_0 rfl dX8_publish_53 ?_
        refine jv_aload_n C dX8_publish_56 rfl ?_
        refine jv_getr C kf_X8_19 sS_0 rfl dX8_publish_57 ?_
        refine jv_iload_n C dX8_publish_60 rfl ?_
        refine jv_callVi C (M_X6_bestLetter h) kw_X8_168 sS_10 rfl rfl ⟨rfl, rfl⟩ (st := [jv_i x2_44, .ref (s0.heap.size + (30 + 3 * (g_8 0 9) : Int).toNat)]) rfl rfl ⟨rfl, rfl⟩ dX8_publish_61 (fun r_61 g_61 h => ?_)
        refine jv_callVv C (M_X3_setLetter (jv_pz hb_32.1 hb_32.2) h) kw_X8_210 (jv_pz hb_32.1 hb_32.2).1 rfl rfl ⟨rfl, rfl⟩ (st := []) rfl rfl ⟨rfl, rfl⟩ dX8_publish_64 (fun g_64 h => ?_)
        refine jv_iincn C dX8_publish_67 (Nat.lt_of_lt_of_eq (Nat.le_of_ble_eq_true rfl) hml) rfl (fun v2_67 ev2_67 => ?_)
        replace h := h v2_67 ev2_67
        refine jv_lset (ls' := [some (.ref (s0.heap.size + (0 : Int).toNat)), some (.ref (s0.heap.size + (30 + 3 * (g_8 0 9) : Int).toNat)), some (jv_i v2_67)]) rfl ?_
        refine jv_goto (tgt := 44) C dX8_publish_70 rfl ?_
        exact jv_less (ls' := [some (.ref (s0.heap.size + (0 : Int).toNat)), some (.ref (s0.heap.size + (30 + 3 * (g_8 0 9) : Int).toNat)), some (jv_i v2_67)]) ⟨rfl, ⟨rfl, ⟨rfl, trivial⟩⟩⟩ (hK44 _ _ h)
    · replace h := h2_11 hc_11
      exact jv_less (ls' := [none, none, none]) trivial (hJ14 _ h)

def wp_X8_clueOf (a1 : Int) (a2 : Int) (Q : Int → jv_Mem → Prop) (Qx : String → jv_Mem → Prop) (g : jv_Mem) : Prop :=
  (wp_X8_needIndex a1 (g 0 9) (fun (g_5 : jv_Mem) => (wp_X8_needIndex a2 6 (fun (g_11 : jv_Mem) => (((0 : Int) ≤ a1 ∧ a1 < (20 : Int)) ∧ (wp_X3_clueNumber (30 + 3 * a1) a2 (fun (r_21 : Int) (g_21 : jv_Mem) => Q r_21 g_21) g_11))) (fun (E : String) (gx : jv_Mem) => Qx E gx) g_5)) (fun (E : String) (gx : jv_Mem) => Qx E gx) g)
set_option maxHeartbeats 4000000 in
set_option maxRecDepth 100000 in
theorem M_X8_clueOf {l : Launch} {s0 : State} {b0 : Addr} {D : va_G} {ids : Nat → ClassId} {g : jv_Mem} {a1 : Int} {a2 : Int} {Q : Int → jv_Mem → Prop} {Qx : String → jv_Mem → Prop} (hT : jv_T l s0 b0) (h : wp_X8_clueOf a1 a2 Q Qx g) : jv_MX l s0 b0 D ids yX8_clueOf cX8_clueOf 3 (some .int) 7 116 2 12 jv_SH g [.ref (s0.heap.size + (0 : Int).toNat), jv_i a1, jv_i a2] (jv_qi Q) Qx := by
  refine jv_MX.of (by decide +kernel) rfl rfl (fun p e s m args below meth c C hml hr hlk hxt => ?_)
  replace C : jv_C p s m args c cX8_clueOf RX8 s0 b0 D ids := C
  show jv_V p l e (jv_rm 7 116 2 12) s m args below meth c 0 0 (jv_ZX below s0 D ids jv_SH (jv_qi Q) Qx args s 2 12) s0 D ids none jv_SH g 0 [some (.ref (s0.heap.size + (0 : Int).toNat)), some (jv_i a1), some (jv_i a2)] []
  unfold wp_X8_clueOf at h
  refine jv_iload_n C dX8_clueOf_0 rfl ?_
  refine jv_aload_n C dX8_clueOf_1 rfl ?_
  refine jv_geti C kf_X8_204 sS_0 rfl dX8_clueOf_2 ?_
  refine jv_callSXv C (M_X8_needIndex hT h) kw_X8_69 rfl ⟨rfl, rfl⟩ (st := []) rfl rfl ⟨rfl, rfl⟩ dX8_clueOf_5 (fun g_5 h => ?_) (fun E gx h => ?_)
  rotate_left 1
  · exact jv_xout hxt hlk h ⟨rfl, rfl⟩
  refine jv_iload_n C dX8_clueOf_8 rfl ?_
  refine jv_bipush C dX8_clueOf_9 (by decide +kernel) ?_
  refine jv_callSXv C (M_X8_needIndex hT h) kw_X8_69 rfl ⟨rfl, rfl⟩ (st := []) rfl rfl ⟨rfl, rfl⟩ dX8_clueOf_11 (fun g_11 h => ?_) (fun E gx h => ?_)
  rotate_left 1
  · exact jv_xout hxt hlk h ⟨rfl, rfl⟩
  refine jv_aload_n C dX8_clueOf_14 rfl ?_
  refine jv_getr C kf_X8_39 sS_0 rfl dX8_clueOf_15 ?_
  refine jv_iload_n C dX8_clueOf_18 rfl ?_
  obtain ⟨hb_19, h⟩ := h
  refine jv_aaldP C hb_19 dX8_clueOf_19 ?_
  refine jv_iload_n C dX8_clueOf_20 rfl ?_
  refine jv_callVi C (M_X3_clueNumber (jv_pz hb_19.1 hb_19.2) h) kw_X8_225 (jv_pz hb_19.1 hb_19.2).1 rfl rfl ⟨rfl, rfl⟩ (st := []) rfl rfl ⟨rfl, rfl⟩ dX8_clueOf_21 (fun r_21 g_21 h => ?_)
  exact jv_xret (jv_iret C hr hlk ⟨_, rfl, h⟩ dX8_clueOf_24 ⟨rfl, rfl⟩)

def wp_X8_addSolver (a1 : Int) (a2 : Int) (Q : Int → jv_Mem → Prop) (Qx : String → jv_Mem → Prop) (g : jv_Mem) : Prop :=
  (wp_X8_needRange a1 ((-12)) 14 (fun (g_5 : jv_Mem) => (wp_X8_needRange a2 0 1000 (fun (g_13 : jv_Mem) => ((jv_r (g_13 0 10)) ∧ ((g_13 0 10) < 6 → (((0 : Int) ≤ g_13 0 10 ∧ g_13 0 10 < (6 : Int)) ∧ (wp_X4_join (90 + 6 * (g_13 0 10)) a1 a2 (fun (g_46 : jv_Mem) => (∀ g_56 : jv_Mem, g_56 = jv_up g_46 0 10 ((g_46 0 10) + 1) → Q ((g_56 0 10) - 1) g_56)) g_13))) ∧ (6 ≤ (g_13 0 10) → Qx "java/lang/IllegalStateException" g_13))) (fun (E : String) (gx : jv_Mem) => Qx E gx) g_5)) (fun (E : String) (gx : jv_Mem) => Qx E gx) g)
set_option maxHeartbeats 4000000 in
set_option maxRecDepth 100000 in
theorem M_X8_addSolver {l : Launch} {s0 : State} {b0 : Addr} {D : va_G} {ids : Nat → ClassId} {g : jv_Mem} {a1 : Int} {a2 : Int} {Q : Int → jv_Mem → Prop} {Qx : String → jv_Mem → Prop} (hT : jv_T l s0 b0) (h : wp_X8_addSolver a1 a2 Q Qx g) : jv_MX l s0 b0 D ids yX8_addSolver cX8_addSolver 3 (some .int) 7 117 3 18 jv_SH g [.ref (s0.heap.size + (0 : Int).toNat), jv_i a1, jv_i a2] (jv_qi Q) Qx := by
  refine jv_MX.of (by decide +kernel) rfl rfl (fun p e s m args below meth c C hml hr hlk hxt => ?_)
  replace C : jv_C p s m args c cX8_addSolver RX8 s0 b0 D ids := C
  show jv_V p l e (jv_rm 7 117 3 18) s m args below meth c 0 0 (jv_ZX below s0 D ids jv_SH (jv_qi Q) Qx args s 3 18) s0 D ids none jv_SH g 0 [some (.ref (s0.heap.size + (0 : Int).toNat)), some (jv_i a1), some (jv_i a2)] []
  unfold wp_X8_addSolver at h
  refine jv_iload_n C dX8_addSolver_0 rfl ?_
  refine jv_bipush C dX8_addSolver_1 (by decide +kernel) ?_
  refine jv_bipush C dX8_addSolver_3 (by decide +kernel) ?_
  refine jv_callSXv C (M_X8_needRange hT h) kw_X8_107 rfl ⟨rfl, rfl⟩ (st := []) rfl rfl ⟨rfl, rfl⟩ dX8_addSolver_5 (fun g_5 h => ?_) (fun E gx h => ?_)
  rotate_left 1
  · exact jv_xout hxt hlk h ⟨rfl, rfl⟩
  refine jv_iload_n C dX8_addSolver_8 rfl ?_
  refine jv_const C dX8_addSolver_9 ?_
  refine jv_sipush C dX8_addSolver_10 (by decide +kernel) ?_
  refine jv_callSXv C (M_X8_needRange hT h) kw_X8_107 rfl ⟨rfl, rfl⟩ (st := []) rfl rfl ⟨rfl, rfl⟩ dX8_addSolver_13 (fun g_13 h => ?_) (fun E gx h => ?_)
  rotate_left 1
  · exact jv_xout hxt hlk h ⟨rfl, rfl⟩
  refine jv_aload_n C dX8_addSolver_16 rfl ?_
  refine jv_geti C kf_X8_228 sS_0 rfl dX8_addSolver_17 ?_
  refine jv_bipush C dX8_addSolver_20 (by decide +kernel) ?_
  obtain ⟨hr_22, h1_22, h2_22⟩ := h
  refine jv_icmp_lt (tgt := 35) C hr_22 ⟨by decide, by decide⟩ dX8_addSolver_22 rfl (fun hc_22 => ?_) (fun hc_22 => ?_)
  · replace h := h1_22 hc_22
    refine jv_aload_n C dX8_addSolver_35 rfl ?_
    refine jv_getr C kf_X8_45 sS_0 rfl dX8_addSolver_36 ?_
    refine jv_aload_n C dX8_addSolver_39 rfl ?_
    refine jv_geti C kf_X8_228 sS_0 rfl dX8_addSolver_40 ?_
    obtain ⟨hb_43, h⟩ := h
    refine jv_aaldS C hb_43 dX8_addSolver_43 ?_
    refine jv_iload_n C dX8_addSolver_44 rfl ?_
    refine jv_iload_n C dX8_addSolver_45 rfl ?_
    refine jv_callVv C (M_X4_join (jv_sv hb_43.1 hb_43.2) h) kw_X8_233 (jv_sv hb_43.1 hb_43.2).1 rfl rfl ⟨rfl, rfl⟩ (st := []) rfl rfl ⟨rfl, rfl⟩ dX8_addSolver_46 (fun g_46 h => ?_)
    refine jv_aload_n C dX8_addSolver_49 rfl ?_
    refine jv_dup C rfl dX8_addSolver_50 ?_
    refine jv_geti C kf_X8_228 sS_0 rfl dX8_addSolver_51 ?_
    refine jv_const C dX8_addSolver_54 ?_
    refine jv_iadd C dX8_addSolver_55 ?_
    refine jv_puti C kf_X8_228 sS_0 rfl dX8_addSolver_56 (jv_gm (fun g_56 eg_56 => ?_))
    replace h := h g_56 eg_56
    refine jv_aload_n C dX8_addSolver_59 rfl ?_
    refine jv_geti C kf_X8_228 sS_0 rfl dX8_addSolver_60 ?_
    refine jv_const C dX8_addSolver_63 ?_
    refine jv_isub C dX8_addSolver_64 ?_
    exact jv_xret (jv_iret C hr hlk ⟨_, rfl, h⟩ dX8_addSolver_65 ⟨rfl, rfl⟩)
  · replace h := h2_22 hc_22
    exact jt_X8_addSolver C hT hlk hxt ⟨rfl, rfl⟩ ⟨rfl, rfl⟩ h ⟨rfl, rfl⟩

def wp_X8_needCellOf (a1 : Int) (a2 : Int) (a3 : Int) (Q : jv_Mem → Prop) (Qx : String → jv_Mem → Prop) (g : jv_Mem) : Prop :=
  (wp_X8_needIndex a1 (g 0 10) (fun (g_5 : jv_Mem) => (wp_X8_needIndex a2 (g_5 0 9) (fun (g_13 : jv_Mem) => (wp_X8_needIndex a3 9 (fun (g_19 : jv_Mem) => Q g_19) (fun (E : String) (gx : jv_Mem) => Qx E gx) g_13)) (fun (E : String) (gx : jv_Mem) => Qx E gx) g_5)) (fun (E : String) (gx : jv_Mem) => Qx E gx) g)
set_option maxHeartbeats 4000000 in
set_option maxRecDepth 100000 in
theorem M_X8_needCellOf {l : Launch} {s0 : State} {b0 : Addr} {D : va_G} {ids : Nat → ClassId} {g : jv_Mem} {a1 : Int} {a2 : Int} {a3 : Int} {Q : jv_Mem → Prop} {Qx : String → jv_Mem → Prop} (hT : jv_T l s0 b0) (h : wp_X8_needCellOf a1 a2 a3 Q Qx g) : jv_MX l s0 b0 D ids yX8_needCellOf cX8_needCellOf 4 none 7 116 3 18 jv_SH g [.ref (s0.heap.size + (0 : Int).toNat), jv_i a1, jv_i a2, jv_i a3] (jv_qv Q) Qx := by
  refine jv_MX.of (by decide +kernel) rfl rfl (fun p e s m args below meth c C hml hr hlk hxt => ?_)
  replace C : jv_C p s m args c cX8_needCellOf RX8 s0 b0 D ids := C
  show jv_V p l e (jv_rm 7 116 3 18) s m args below meth c 0 0 (jv_ZX below s0 D ids jv_SH (jv_qv Q) Qx args s 3 18) s0 D ids none jv_SH g 0 [some (.ref (s0.heap.size + (0 : Int).toNat)), some (jv_i a1), some (jv_i a2), some (jv_i a3)] []
  unfold wp_X8_needCellOf at h
  refine jv_iload_n C dX8_needCellOf_0 rfl ?_
  refine jv_aload_n C dX8_needCellOf_1 rfl ?_
  refine jv_geti C kf_X8_228 sS_0 rfl dX8_needCellOf_2 ?_
  refine jv_callSXv C (M_X8_needIndex hT h) kw_X8_69 rfl ⟨rfl, rfl⟩ (st := []) rfl rfl ⟨rfl, rfl⟩ dX8_needCellOf_5 (fun g_5 h => ?_) (fun E gx h => ?_)
  rotate_left 1
  · exact jv_xout hxt hlk h ⟨rfl, rfl⟩
  refine jv_iload_n C dX8_needCellOf_8 rfl ?_
  refine jv_aload_n C dX8_needCellOf_9 rfl ?_
  refine jv_geti C kf_X8_204 sS_0 rfl dX8_needCellOf_10 ?_
  refine jv_callSXv C (M_X8_needIndex hT h) kw_X8_69 rfl ⟨rfl, rfl⟩ (st := []) rfl rfl ⟨rfl, rfl⟩ dX8_needCellOf_13 (fun g_13 h => ?_) (fun E gx h => ?_)
  rotate_left 1
  · exact jv_xout hxt hlk h ⟨rfl, rfl⟩
  refine jv_iload_n C dX8_needCellOf_16 rfl ?_
  refine jv_bipush C dX8_needCellOf_17 (by decide +kernel) ?_
  refine jv_callSXv C (M_X8_needIndex hT h) kw_X8_69 rfl ⟨rfl, rfl⟩ (st := []) rfl rfl ⟨rfl, rfl⟩ dX8_needCellOf_19 (fun g_19 h => ?_) (fun E gx h => ?_)
  rotate_left 1
  · exact jv_xout hxt hlk h ⟨rfl, rfl⟩
  exact jv_xret (jv_vret C hr hlk ⟨rfl, h⟩ dX8_needCellOf_22 ⟨rfl, rfl⟩)

def wB_X8_needUnfinished_30 (Qx : String → jv_Mem → Prop) (gj_30 : jv_Mem) : Prop :=
  Qx "java/lang/IllegalStateException" gj_30
def wp_X8_needUnfinished (a1 : Int) (a2 : Int) (a3 : Int) (Q : jv_Mem → Prop) (Qx : String → jv_Mem → Prop) (g : jv_Mem) : Prop :=
  (((0 : Int) ≤ a1 ∧ a1 < (6 : Int)) ∧ (wp_X2_isRight (90 + 6 * a1 + 1) a2 a3 (fun (r_11 : Int) (g_11 : jv_Mem) => ((jv_r r_11) ∧ (¬ r_11 = 0 → wB_X8_needUnfinished_30 Qx g_11) ∧ (r_11 = 0 → (((0 : Int) ≤ a2 ∧ a2 < (20 : Int)) ∧ (wp_X3_isOpen (30 + 3 * a2) a3 (fun (r_24 : Int) (g_24 : jv_Mem) => ((jv_r r_24) ∧ (r_24 = 0 → Q g_24) ∧ (¬ r_24 = 0 → wB_X8_needUnfinished_30 Qx g_24))) g_11))))) g))
set_option maxHeartbeats 4000000 in
set_option maxRecDepth 100000 in
theorem M_X8_needUnfinished {l : Launch} {s0 : State} {b0 : Addr} {D : va_G} {ids : Nat → ClassId} {g : jv_Mem} {a1 : Int} {a2 : Int} {a3 : Int} {Q : jv_Mem → Prop} {Qx : String → jv_Mem → Prop} (hT : jv_T l s0 b0) (h : wp_X8_needUnfinished a1 a2 a3 Q Qx g) : jv_MX l s0 b0 D ids yX8_needUnfinished cX8_needUnfinished 4 none 6 95 1 6 jv_SH g [.ref (s0.heap.size + (0 : Int).toNat), jv_i a1, jv_i a2, jv_i a3] (jv_qv Q) Qx := by
  refine jv_MX.of (by decide +kernel) rfl rfl (fun p e s m args below meth c C hml hr hlk hxt => ?_)
  replace C : jv_C p s m args c cX8_needUnfinished RX8 s0 b0 D ids := C
  show jv_V p l e (jv_rm 6 95 1 6) s m args below meth c 0 0 (jv_ZX below s0 D ids jv_SH (jv_qv Q) Qx args s 1 6) s0 D ids none jv_SH g 0 [some (.ref (s0.heap.size + (0 : Int).toNat)), some (jv_i a1), some (jv_i a2), some (jv_i a3)] []
  unfold wp_X8_needUnfinished at h
  refine jv_aload_n C dX8_needUnfinished_0 rfl ?_
  refine jv_getr C kf_X8_45 sS_0 rfl dX8_needUnfinished_1 ?_
  refine jv_iload_n C dX8_needUnfinished_4 rfl ?_
  obtain ⟨hb_5, h⟩ := h
  refine jv_aaldS C hb_5 dX8_needUnfinished_5 ?_
  refine jv_callV C (M_X4_progress (jv_sv hb_5.1 hb_5.2)) kw_X8_282 (jv_sv hb_5.1 hb_5.2).1 rfl rfl ⟨rfl, rfl⟩ (st := []) rfl rfl ⟨rfl, rfl⟩ dX8_needUnfinished_6 ?_
  rintro _ g_6 ⟨rfl, rfl⟩
  show jv_V p l e (jv_rm 6 95 1 6) s m args below meth c 0 0 (jv_ZX below s0 D ids jv_SH (jv_qv Q) Qx args s 1 6) s0 D ids none jv_SH g 9 [some (.ref (s0.heap.size + (0 : Int).toNat)), some (jv_i a1), some (jv_i a2), some (jv_i a3)] [.ref (s0.heap.size + (90 + 6 * a1 + 1 : Int).toNat)]
  refine jv_iload_n C dX8_needUnfinished_9 rfl ?_
  refine jv_iload_n C dX8_needUnfinished_10 rfl ?_
  refine jv_callVi C (M_X2_isRight (jv_sv hb_5.1 hb_5.2).2.2.2 h) kw_X8_330 (jv_sv hb_5.1 hb_5.2).2.2.2.1 rfl rfl ⟨rfl, rfl⟩ (st := []) rfl rfl ⟨rfl, rfl⟩ dX8_needUnfinished_11 (fun r_11 g_11 h => ?_)
  have hJ30 : ∀ (gj_30 : jv_Mem), wB_X8_needUnfinished_30 Qx gj_30 → jv_V p l e (jv_rm 6 95 1 6) s m args below meth c 0 0 (jv_ZX below s0 D ids jv_SH (jv_qv Q) Qx args s 1 6) s0 D ids none jv_SH gj_30 30 [none, none, none, none] [] := by
    intro gj_30 h
    unfold wB_X8_needUnfinished_30 at h
    exact jt_X8_needUnfinished C hT hlk hxt ⟨rfl, rfl⟩ ⟨rfl, rfl⟩ h ⟨rfl, rfl⟩
  obtain ⟨hr_14, h1_14, h2_14⟩ := h
  refine jv_if_ne (tgt := 30) C hr_14 dX8_needUnfinished_14 rfl (fun hc_14 => ?_) (fun hc_14 => ?_)
  · replace h := h1_14 hc_14
    exact jv_less (ls' := [none, none, none, none]) trivial (hJ30 _ h)
  · replace h := h2_14 hc_14
    refine jv_aload_n C dX8_needUnfinished_17 rfl ?_
    refine jv_getr C kf_X8_39 sS_0 rfl dX8_needUnfinished_18 ?_
    refine jv_iload_n C dX8_needUnfinished_21 rfl ?_
    obtain ⟨hb_22, h⟩ := h
    refine jv_aaldP C hb_22 dX8_needUnfinished_22 ?_
    refine jv_iload_n C dX8_needUnfinished_23 rfl ?_
    refine jv_callVi C (M_X3_isOpen (jv_pz hb_22.1 hb_22.2) h) kw_X8_333 (jv_pz hb_22.1 hb_22.2).1 rfl rfl ⟨rfl, rfl⟩ (st := []) rfl rfl ⟨rfl, rfl⟩ dX8_needUnfinished_24 (fun r_24 g_24 h => ?_)
    obtain ⟨hr_27, h1_27, h2_27⟩ := h
    refine jv_if_eq (tgt := 41) C hr_27 dX8_needUnfinished_27 rfl (fun hc_27 => ?_) (fun hc_27 => ?_)
    · replace h := h1_27 hc_27
      exact jv_xret (jv_vret C hr hlk ⟨rfl, h⟩ dX8_needUnfinished_41 ⟨rfl, rfl⟩)
    · replace h := h2_27 hc_27
      exact jv_less (ls' := [none, none, none, none]) trivial (hJ30 _ h)

def wB_X8_enter_41 (a1 : Int) (a2 : Int) (a3 : Int) (Q : Int → jv_Mem → Prop) (y0_41 : Int) (gj_41 : jv_Mem) : Prop :=
  ((jv_r y0_41) ∧ (y0_41 = 0 → ((y0_41 = 0 ∨ y0_41 = 1) ∧ Q y0_41 gj_41)) ∧ (¬ y0_41 = 0 → (wp_X8_becomeRight a1 a2 a3 (fun (g_52 : jv_Mem) => ((y0_41 = 0 ∨ y0_41 = 1) ∧ Q y0_41 g_52)) gj_41)))
def wp_X8_enter (a1 : Int) (a2 : Int) (a3 : Int) (a4 : Int) (Q : Int → jv_Mem → Prop) (Qx : String → jv_Mem → Prop) (g : jv_Mem) : Prop :=
  (wp_X8_needCellOf a1 a2 a3 (fun (g_4 : jv_Mem) => (wp_X8_needIndex a4 9 (fun (g_11 : jv_Mem) => (wp_X8_needUnfinished a1 a2 a3 (fun (g_18 : jv_Mem) => (((0 : Int) ≤ a2 ∧ a2 < (20 : Int)) ∧ (wp_X3_letter (30 + 3 * a2) a3 (fun (r_28 : Int) (g_28 : jv_Mem) => ((jv_r r_28 ∧ jv_r a4) ∧ (¬ r_28 = a4 → wB_X8_enter_41 a1 a2 a3 Q 0 g_28) ∧ (r_28 = a4 → wB_X8_enter_41 a1 a2 a3 Q 1 g_28))) g_18))) (fun (E : String) (gx : jv_Mem) => Qx E gx) g_11)) (fun (E : String) (gx : jv_Mem) => Qx E gx) g_4)) (fun (E : String) (gx : jv_Mem) => Qx E gx) g)
set_option maxHeartbeats 4000000 in
set_option maxRecDepth 100000 in
theorem M_X8_enter {l : Launch} {s0 : State} {b0 : Addr} {D : va_G} {ids : Nat → ClassId} {g : jv_Mem} {a1 : Int} {a2 : Int} {a3 : Int} {a4 : Int} {Q : Int → jv_Mem → Prop} {Qx : String → jv_Mem → Prop} (hT : jv_T l s0 b0) (h : wp_X8_enter a1 a2 a3 a4 Q Qx g) : jv_MX l s0 b0 D ids yX8_enter cX8_enter 6 (some .boolean) 8 139 5 30 jv_SH g [.ref (s0.heap.size + (0 : Int).toNat), jv_i a1, jv_i a2, jv_i a3, jv_i a4] (jv_qi Q) Qx := by
  refine jv_MX.of (by decide +kernel) rfl rfl (fun p e s m args below meth c C hml hr hlk hxt => ?_)
  replace C : jv_C p s m args c cX8_enter RX8 s0 b0 D ids := C
  show jv_V p l e (jv_rm 8 139 5 30) s m args below meth c 0 0 (jv_ZX below s0 D ids jv_SH (jv_qi Q) Qx args s 5 30) s0 D ids none jv_SH g 0 [some (.ref (s0.heap.size + (0 : Int).toNat)), some (jv_i a1), some (jv_i a2), some (jv_i a3), some (jv_i a4), none] []
  unfold wp_X8_enter at h
  refine jv_aload_n C dX8_enter_0 rfl ?_
  refine jv_iload_n C dX8_enter_1 rfl ?_
  refine jv_iload_n C dX8_enter_2 rfl ?_
  refine jv_iload_n C dX8_enter_3 rfl ?_
  refine jv_callVXv C (M_X8_needCellOf hT h) kw_X8_236 sS_0 rfl rfl ⟨rfl, rfl⟩ (st := []) rfl rfl ⟨rfl, rfl⟩ dX8_enter_4 (fun g_4 h => ?_) (fun E gx h => ?_)
  rotate_left 1
  · exact jv_xout hxt hlk h ⟨rfl, rfl⟩
  refine jv_iload C dX8_enter_7 rfl ?_
  refine jv_bipush C dX8_enter_9 (by decide +kernel) ?_
  refine jv_callSXv C (M_X8_needIndex hT h) kw_X8_69 rfl ⟨rfl, rfl⟩ (st := []) rfl rfl ⟨rfl, rfl⟩ dX8_enter_11 (fun g_11 h => ?_) (fun E gx h => ?_)
  rotate_left 1
  · exact jv_xout hxt hlk h ⟨rfl, rfl⟩
  refine jv_aload_n C dX8_enter_14 rfl ?_
  refine jv_iload_n C dX8_enter_15 rfl ?_
  refine jv_iload_n C dX8_enter_16 rfl ?_
  refine jv_iload_n C dX8_enter_17 rfl ?_
  refine jv_callVXv C (M_X8_needUnfinished hT h) kw_X8_239 sS_0 rfl rfl ⟨rfl, rfl⟩ (st := []) rfl rfl ⟨rfl, rfl⟩ dX8_enter_18 (fun g_18 h => ?_) (fun E gx h => ?_)
  rotate_left 1
  · exact jv_xout hxt hlk h ⟨rfl, rfl⟩
  refine jv_aload_n C dX8_enter_21 rfl ?_
  refine jv_getr C kf_X8_39 sS_0 rfl dX8_enter_22 ?_
  refine jv_iload_n C dX8_enter_25 rfl ?_
  obtain ⟨hb_26, h⟩ := h
  refine jv_aaldP C hb_26 dX8_enter_26 ?_
  refine jv_iload_n C dX8_enter_27 rfl ?_
  refine jv_callVi C (M_X3_letter (jv_pz hb_26.1 hb_26.2) h) kw_X8_242 (jv_pz hb_26.1 hb_26.2).1 rfl rfl ⟨rfl, rfl⟩ (st := []) rfl rfl ⟨rfl, rfl⟩ dX8_enter_28 (fun r_28 g_28 h => ?_)
  refine jv_iload C dX8_enter_31 rfl ?_
  have hJ41 : ∀ (y0_41 : Int) (gj_41 : jv_Mem), wB_X8_enter_41 a1 a2 a3 Q y0_41 gj_41 → jv_V p l e (jv_rm 8 139 5 30) s m args below meth c 5 30 (jv_ZX below s0 D ids jv_SH (jv_qi Q) Qx args s 5 30) s0 D ids none jv_SH gj_41 41 [some (.ref (s0.heap.size + (0 : Int).toNat)), some (jv_i a1), some (jv_i a2), some (jv_i a3), none, none] [jv_i y0_41] := by
    intro y0_41 gj_41 h
    unfold wB_X8_enter_41 at h
    refine jv_istore (ls' := [some (.ref (s0.heap.size + (0 : Int).toNat)), some (jv_i a1), some (jv_i a2), some (jv_i a3), none, some (jv_i y0_41)]) C dX8_enter_41 (Nat.lt_of_lt_of_eq (Nat.le_of_ble_eq_true rfl) hml) rfl ?_
    refine jv_iload C dX8_enter_43 rfl ?_
    obtain ⟨hr_45, h1_45, h2_45⟩ := h
    refine jv_if_eq (tgt := 55) C hr_45 dX8_enter_45 rfl (fun hc_45 => ?_) (fun hc_45 => ?_)
    · replace h := h1_45 hc_45
      refine jv_iload C dX8_enter_55 rfl ?_
      obtain ⟨hz_57, h⟩ := h
      exact jv_xret (jv_zret C hr hlk (jv_nz hz_57) ⟨_, rfl, h⟩ dX8_enter_57 ⟨rfl, rfl⟩)
    · replace h := h2_45 hc_45
      refine jv_aload_n C dX8_enter_48 rfl ?_
      refine jv_iload_n C dX8_enter_49 rfl ?_
      refine jv_iload_n C dX8_enter_50 rfl ?_
      refine jv_iload_n C dX8_enter_51 rfl ?_
      refine jv_callVv C (M_X8_becomeRight h) kw_X8_245 sS_0 rfl rfl ⟨rfl, rfl⟩ (st := []) rfl rfl ⟨rfl, rfl⟩ dX8_enter_52 (fun g_52 h => ?_)
      refine jv_iload C dX8_enter_55 rfl ?_
      obtain ⟨hz_57, h⟩ := h
      exact jv_xret (jv_zret C hr hlk (jv_nz hz_57) ⟨_, rfl, h⟩ dX8_enter_57 ⟨rfl, rfl⟩)
  obtain ⟨hr_33, h1_33, h2_33⟩ := h
  refine jv_icmp_ne (tgt := 40) C hr_33.1 hr_33.2 dX8_enter_33 rfl (fun hc_33 => ?_) (fun hc_33 => ?_)
  · replace h := h1_33 hc_33
    refine jv_const C dX8_enter_40 ?_
    exact jv_less (ls' := [some (.ref (s0.heap.size + (0 : Int).toNat)), some (jv_i a1), some (jv_i a2), some (jv_i a3), none, none]) ⟨rfl, ⟨rfl, ⟨rfl, ⟨rfl, trivial⟩⟩⟩⟩ (hJ41 _ _ h)
  · replace h := h2_33 hc_33
    refine jv_const C dX8_enter_36 ?_
    refine jv_goto (tgt := 41) C dX8_enter_37 rfl ?_
    exact jv_less (ls' := [some (.ref (s0.heap.size + (0 : Int).toNat)), some (jv_i a1), some (jv_i a2), some (jv_i a3), none, none]) ⟨rfl, ⟨rfl, ⟨rfl, ⟨rfl, trivial⟩⟩⟩⟩ (hJ41 _ _ h)

def wp_X8_help (a1 : Int) (a2 : Int) (a3 : Int) (Q : Int → jv_Mem → Prop) (Qx : String → jv_Mem → Prop) (g : jv_Mem) : Prop :=
  (wp_X8_needCellOf a1 a2 a3 (fun (g_4 : jv_Mem) => (wp_X8_needUnfinished a1 a2 a3 (fun (g_11 : jv_Mem) => (((0 : Int) ≤ a1 ∧ a1 < (6 : Int)) ∧ (wp_X4_canPayHelp (90 + 6 * a1) a2 (fun (r_21 : Int) (g_21 : jv_Mem) => ((jv_r r_21) ∧ (¬ r_21 = 0 → (((0 : Int) ≤ a1 ∧ a1 < (6 : Int)) ∧ (wp_X4_payHelp (90 + 6 * a1) a2 a3 (fun (g_45 : jv_Mem) => (wp_X8_becomeRight a1 a2 a3 (fun (g_52 : jv_Mem) => (((0 : Int) ≤ a2 ∧ a2 < (20 : Int)) ∧ (wp_X3_letter (30 + 3 * a2) a3 (fun (r_62 : Int) (g_62 : jv_Mem) => Q r_62 g_62) g_52))) g_45)) g_21))) ∧ (r_21 = 0 → Qx "java/lang/IllegalStateException" g_21))) g_11))) (fun (E : String) (gx : jv_Mem) => Qx E gx) g_4)) (fun (E : String) (gx : jv_Mem) => Qx E gx) g)
set_option maxHeartbeats 4000000 in
set_option maxRecDepth 100000 in
theorem M_X8_help {l : Launch} {s0 : State} {b0 : Addr} {D : va_G} {ids : Nat → ClassId} {g : jv_Mem} {a1 : Int} {a2 : Int} {a3 : Int} {Q : Int → jv_Mem → Prop} {Qx : String → jv_Mem → Prop} (hT : jv_T l s0 b0) (h : wp_X8_help a1 a2 a3 Q Qx g) : jv_MX l s0 b0 D ids yX8_help cX8_help 4 (some .int) 8 139 5 30 jv_SH g [.ref (s0.heap.size + (0 : Int).toNat), jv_i a1, jv_i a2, jv_i a3] (jv_qi Q) Qx := by
  refine jv_MX.of (by decide +kernel) rfl rfl (fun p e s m args below meth c C hml hr hlk hxt => ?_)
  replace C : jv_C p s m args c cX8_help RX8 s0 b0 D ids := C
  show jv_V p l e (jv_rm 8 139 5 30) s m args below meth c 0 0 (jv_ZX below s0 D ids jv_SH (jv_qi Q) Qx args s 5 30) s0 D ids none jv_SH g 0 [some (.ref (s0.heap.size + (0 : Int).toNat)), some (jv_i a1), some (jv_i a2), some (jv_i a3)] []
  unfold wp_X8_help at h
  refine jv_aload_n C dX8_help_0 rfl ?_
  refine jv_iload_n C dX8_help_1 rfl ?_
  refine jv_iload_n C dX8_help_2 rfl ?_
  refine jv_iload_n C dX8_help_3 rfl ?_
  refine jv_callVXv C (M_X8_needCellOf hT h) kw_X8_236 sS_0 rfl rfl ⟨rfl, rfl⟩ (st := []) rfl rfl ⟨rfl, rfl⟩ dX8_help_4 (fun g_4 h => ?_) (fun E gx h => ?_)
  rotate_left 1
  · exact jv_xout hxt hlk h ⟨rfl, rfl⟩
  refine jv_aload_n C dX8_help_7 rfl ?_
  refine jv_iload_n C dX8_help_8 rfl ?_
  refine jv_iload_n C dX8_help_9 rfl ?_
  refine jv_iload_n C dX8_help_10 rfl ?_
  refine jv_callVXv C (M_X8_needUnfinished hT h) kw_X8_239 sS_0 rfl rfl ⟨rfl, rfl⟩ (st := []) rfl rfl ⟨rfl, rfl⟩ dX8_help_11 (fun g_11 h => ?_) (fun E gx h => ?_)
  rotate_left 1
  · exact jv_xout hxt hlk h ⟨rfl, rfl⟩
  refine jv_aload_n C dX8_help_14 rfl ?_
  refine jv_getr C kf_X8_45 sS_0 rfl dX8_help_15 ?_
  refine jv_iload_n C dX8_help_18 rfl ?_
  obtain ⟨hb_19, h⟩ := h
  refine jv_aaldS C hb_19 dX8_help_19 ?_
  refine jv_iload_n C dX8_help_20 rfl ?_
  refine jv_callVi C (M_X4_canPayHelp (jv_sv hb_19.1 hb_19.2) h) kw_X8_248 (jv_sv hb_19.1 hb_19.2).1 rfl rfl ⟨rfl, rfl⟩ (st := []) rfl rfl ⟨rfl, rfl⟩ dX8_help_21 (fun r_21 g_21 h => ?_)
  obtain ⟨hr_24, h1_24, h2_24⟩ := h
  refine jv_if_ne (tgt := 37) C hr_24 dX8_help_24 rfl (fun hc_24 => ?_) (fun hc_24 => ?_)
  · replace h := h1_24 hc_24
    refine jv_aload_n C dX8_help_37 rfl ?_
    refine jv_getr C kf_X8_45 sS_0 rfl dX8_help_38 ?_
    refine jv_iload_n C dX8_help_41 rfl ?_
    obtain ⟨hb_42, h⟩ := h
    refine jv_aaldS C hb_42 dX8_help_42 ?_
    refine jv_iload_n C dX8_help_43 rfl ?_
    refine jv_iload_n C dX8_help_44 rfl ?_
    refine jv_callVv C (M_X4_payHelp (jv_sv hb_42.1 hb_42.2) h) kw_X8_253 (jv_sv hb_42.1 hb_42.2).1 rfl rfl ⟨rfl, rfl⟩ (st := []) rfl rfl ⟨rfl, rfl⟩ dX8_help_45 (fun g_45 h => ?_)
    refine jv_aload_n C dX8_help_48 rfl ?_
    refine jv_iload_n C dX8_help_49 rfl ?_
    refine jv_iload_n C dX8_help_50 rfl ?_
    refine jv_iload_n C dX8_help_51 rfl ?_
    refine jv_callVv C (M_X8_becomeRight h) kw_X8_245 sS_0 rfl rfl ⟨rfl, rfl⟩ (st := []) rfl rfl ⟨rfl, rfl⟩ dX8_help_52 (fun g_52 h => ?_)
    refine jv_aload_n C dX8_help_55 rfl ?_
    refine jv_getr C kf_X8_39 sS_0 rfl dX8_help_56 ?_
    refine jv_iload_n C dX8_help_59 rfl ?_
    obtain ⟨hb_60, h⟩ := h
    refine jv_aaldP C hb_60 dX8_help_60 ?_
    refine jv_iload_n C dX8_help_61 rfl ?_
    refine jv_callVi C (M_X3_letter (jv_pz hb_60.1 hb_60.2) h) kw_X8_242 (jv_pz hb_60.1 hb_60.2).1 rfl rfl ⟨rfl, rfl⟩ (st := []) rfl rfl ⟨rfl, rfl⟩ dX8_help_62 (fun r_62 g_62 h => ?_)
    exact jv_xret (jv_iret C hr hlk ⟨_, rfl, h⟩ dX8_help_65 ⟨rfl, rfl⟩)
  · replace h := h2_24 hc_24
    exact jt_X8_help C hT hlk hxt ⟨rfl, rfl⟩ ⟨rfl, rfl⟩ h ⟨rfl, rfl⟩

def wB_X8_judge_135 (K85 : Int → Int → jv_Mem → Prop) (x5_85 : Int) (x4_135 : Int) (gj_135 : jv_Mem) : Prop :=
  (∀ v5_135 : Int, v5_135 = x5_85 + 1 → K85 x4_135 v5_135 gj_135)
def wp_X8_judge (a1 : Int) (a2 : Int) (Q : Int → jv_Mem → Prop) (Qx : String → jv_Mem → Prop) (g : jv_Mem) : Prop :=
  (wp_X8_needIndex a1 (g 0 9) (fun (g_5 : jv_Mem) => (wp_X8_needIndex a2 6 (fun (g_11 : jv_Mem) => (((0 : Int) ≤ a1 ∧ a1 < (20 : Int)) ∧ (wp_X3_isWrong (30 + 3 * a1) a2 (fun (r_21 : Int) (g_21 : jv_Mem) => ((jv_r r_21) ∧ (r_21 = 0 → (wp_X8_cellsOf a2 (fun (r_39 : Int) (g_39 : jv_Mem) => (((0 : Int) ≤ a1 ∧ a1 < (20 : Int)) ∧ (wp_X3_openCells (30 + 3 * a1) (fun (r_48 : Int) (g_48 : jv_Mem) => (∀ v3_54 : Int, v3_54 = jv_and r_39 (jv_xor r_48 ((-1))) → (((0 : Int) ≤ a1 ∧ a1 < (20 : Int)) ∧ (wp_X3_setWrong (30 + 3 * a1) a2 (fun (g_62 : jv_Mem) => (wp_X1_add ((-1)) a1 a2 (g_62 0 11) (fun (g_76 : jv_Mem) => jv_lp2 (fun (K85 : Int → Int → jv_Mem → Prop) (x4_85 x5_85 : Int) (gl_85 : jv_Mem) => ((jv_r x5_85 ∧ jv_r (gl_85 0 10)) ∧ ((gl_85 0 10) ≤ x5_85 → Q x4_85 gl_85) ∧ (x5_85 < (gl_85 0 10) → (wp_X8_keptStreak x5_85 (fun (r_97 : Int) (g_97 : jv_Mem) => (((0 : Int) ≤ x5_85 ∧ x5_85 < (6 : Int)) ∧ (wp_X4_payBack (90 + 6 * x5_85) a1 v3_54 (fun (g_111 : jv_Mem) => (wp_X8_countIfSolved x5_85 a1 (fun (g_118 : jv_Mem) => (wp_X8_keptStreak x5_85 (fun (r_124 : Int) (g_124 : jv_Mem) => ((jv_r r_124 ∧ jv_r r_97) ∧ (r_124 ≤ r_97 → wB_X8_judge_135 K85 x5_85 x4_85 g_124) ∧ (r_97 < r_124 → (∀ v4_132 : Int, v4_132 = x4_85 + 1 → wB_X8_judge_135 K85 x5_85 v4_132 g_124)))) g_118)) g_111)) g_97))) gl_85)))) 0 0 g_76) g_62)) g_48)))) g_39))) g_21)) ∧ (¬ r_21 = 0 → Qx "java/lang/IllegalStateException" g_21))) g_11))) (fun (E : String) (gx : jv_Mem) => Qx E gx) g_5)) (fun (E : String) (gx : jv_Mem) => Qx E gx) g)
set_option maxHeartbeats 4000000 in
set_option maxRecDepth 100000 in
theorem M_X8_judge {l : Launch} {s0 : State} {b0 : Addr} {D : va_G} {ids : Nat → ClassId} {g : jv_Mem} {a1 : Int} {a2 : Int} {Q : Int → jv_Mem → Prop} {Qx : String → jv_Mem → Prop} (hT : jv_T l s0 b0) (h : wp_X8_judge a1 a2 Q Qx g) : jv_MX l s0 b0 D ids yX8_judge cX8_judge 7 (some .int) 7 116 3 18 jv_SH g [.ref (s0.heap.size + (0 : Int).toNat), jv_i a1, jv_i a2] (jv_qi Q) Qx := by
  refine jv_MX.of (by decide +kernel) rfl rfl (fun p e s m args below meth c C hml hr hlk hxt => ?_)
  replace C : jv_C p s m args c cX8_judge RX8 s0 b0 D ids := C
  show jv_V p l e (jv_rm 7 116 3 18) s m args below meth c 0 0 (jv_ZX below s0 D ids jv_SH (jv_qi Q) Qx args s 3 18) s0 D ids none jv_SH g 0 [some (.ref (s0.heap.size + (0 : Int).toNat)), some (jv_i a1), some (jv_i a2), none, none, none, none] []
  unfold wp_X8_judge at h
  refine jv_iload_n C dX8_judge_0 rfl ?_
  refine jv_aload_n C dX8_judge_1 rfl ?_
  refine jv_geti C kf_X8_204 sS_0 rfl dX8_judge_2 ?_
  refine jv_callSXv C (M_X8_needIndex hT h) kw_X8_69 rfl ⟨rfl, rfl⟩ (st := []) rfl rfl ⟨rfl, rfl⟩ dX8_judge_5 (fun g_5 h => ?_) (fun E gx h => ?_)
  rotate_left 1
  · exact jv_xout hxt hlk h ⟨rfl, rfl⟩
  refine jv_iload_n C dX8_judge_8 rfl ?_
  refine jv_bipush C dX8_judge_9 (by decide +kernel) ?_
  refine jv_callSXv C (M_X8_needIndex hT h) kw_X8_69 rfl ⟨rfl, rfl⟩ (st := []) rfl rfl ⟨rfl, rfl⟩ dX8_judge_11 (fun g_11 h => ?_) (fun E gx h => ?_)
  rotate_left 1
  · exact jv_xout hxt hlk h ⟨rfl, rfl⟩
  refine jv_aload_n C dX8_judge_14 rfl ?_
  refine jv_getr C kf_X8_39 sS_0 rfl dX8_judge_15 ?_
  refine jv_iload_n C dX8_judge_18 rfl ?_
  obtain ⟨hb_19, h⟩ := h
  refine jv_aaldP C hb_19 dX8_judge_19 ?_
  refine jv_iload_n C dX8_judge_20 rfl ?_
  refine jv_callVi C (M_X3_isWrong (jv_pz hb_19.1 hb_19.2) h) kw_X8_256 (jv_pz hb_19.1 hb_19.2).1 rfl rfl ⟨rfl, rfl⟩ (st := []) rfl rfl ⟨rfl, rfl⟩ dX8_judge_21 (fun r_21 g_21 h => ?_)
  obtain ⟨hr_24, h1_24, h2_24⟩ := h
  refine jv_if_eq (tgt := 38) C hr_24 dX8_judge_24 rfl (fun hc_24 => ?_) (fun hc_24 => ?_)
  · replace h := h1_24 hc_24
    refine jv_iload_n C dX8_judge_38 rfl ?_
    refine jv_callSi C (M_X8_cellsOf h) kw_X8_261 rfl ⟨rfl, rfl⟩ (st := []) rfl rfl ⟨rfl, rfl⟩ dX8_judge_39 (fun r_39 g_39 h => ?_)
    refine jv_aload_n C dX8_judge_42 rfl ?_
    refine jv_getr C kf_X8_39 sS_0 rfl dX8_judge_43 ?_
    refine jv_iload_n C dX8_judge_46 rfl ?_
    obtain ⟨hb_47, h⟩ := h
    refine jv_aaldP C hb_47 dX8_judge_47 ?_
    refine jv_callVi C (M_X3_openCells (jv_pz hb_47.1 hb_47.2) h) kw_X8_264 (jv_pz hb_47.1 hb_47.2).1 rfl rfl ⟨rfl, rfl⟩ (st := [jv_i r_39]) rfl rfl ⟨rfl, rfl⟩ dX8_judge_48 (fun r_48 g_48 h => ?_)
    refine jv_const C dX8_judge_51 ?_
    refine jv_ixor C dX8_judge_52 ?_
    refine jv_iand C dX8_judge_53 ?_
    refine jv_top (fun v3_54 ev3_54 => ?_)
    replace h := h v3_54 ev3_54
    refine jv_istore_n (ls' := [some (.ref (s0.heap.size + (0 : Int).toNat)), some (jv_i a1), some (jv_i a2), some (jv_i v3_54), none, none, none]) C dX8_judge_54 (Nat.lt_of_lt_of_eq (Nat.le_of_ble_eq_true rfl) hml) rfl ?_
    refine jv_aload_n C dX8_judge_55 rfl ?_
    refine jv_getr C kf_X8_39 sS_0 rfl dX8_judge_56 ?_
    refine jv_iload_n C dX8_judge_59 rfl ?_
    obtain ⟨hb_60, h⟩ := h
    refine jv_aaldP C hb_60 dX8_judge_60 ?_
    refine jv_iload_n C dX8_judge_61 rfl ?_
    refine jv_callVv C (M_X3_setWrong (jv_pz hb_60.1 hb_60.2) h) kw_X8_267 (jv_pz hb_60.1 hb_60.2).1 rfl rfl ⟨rfl, rfl⟩ (st := []) rfl rfl ⟨rfl, rfl⟩ dX8_judge_62 (fun g_62 h => ?_)
    refine jv_aload_n C dX8_judge_65 rfl ?_
    refine jv_getr C kf_X8_52 sS_0 rfl dX8_judge_66 ?_
    refine jv_const C dX8_judge_69 ?_
    refine jv_iload_n C dX8_judge_70 rfl ?_
    refine jv_iload_n C dX8_judge_71 rfl ?_
    refine jv_aload_n C dX8_judge_72 rfl ?_
    refine jv_geti C kf_X8_190 sS_0 rfl dX8_judge_73 ?_
    refine jv_callVv C (M_X1_add h) kw_X8_270 sS_21 rfl rfl ⟨rfl, rfl⟩ (st := []) rfl rfl ⟨rfl, rfl⟩ dX8_judge_76 (fun g_76 h => ?_)
    refine jv_const C dX8_judge_79 ?_
    refine jv_istore (ls' := [some (.ref (s0.heap.size + (0 : Int).toNat)), some (jv_i a1), some (jv_i a2), some (jv_i v3_54), some (jv_i 0), none, none]) C dX8_judge_80 (Nat.lt_of_lt_of_eq (Nat.le_of_ble_eq_true rfl) hml) rfl ?_
    refine jv_const C dX8_judge_82 ?_
    refine jv_istore (ls' := [some (.ref (s0.heap.size + (0 : Int).toNat)), some (jv_i a1), some (jv_i a2), some (jv_i v3_54), some (jv_i 0), some (jv_i 0), none]) C dX8_judge_83 (Nat.lt_of_lt_of_eq (Nat.le_of_ble_eq_true rfl) hml) rfl ?_
    refine jv_less (ls' := [some (.ref (s0.heap.size + (0 : Int).toNat)), some (jv_i a1), none, some (jv_i v3_54), some (jv_i 0), some (jv_i 0), none]) ⟨rfl, ⟨rfl, ⟨rfl, ⟨rfl, ⟨rfl, trivial⟩⟩⟩⟩⟩ ?_
    refine jv_lp2.use h (fun (x4_85 x5_85 : Int) (gl_85 : jv_Mem) => jv_V p l e (jv_rm 7 116 3 18) s m args below meth c 2 12 (jv_ZX below s0 D ids jv_SH (jv_qi Q) Qx args s 3 18) s0 D ids none jv_SH gl_85 85 [some (.ref (s0.heap.size + (0 : Int).toNat)), some (jv_i a1), none, some (jv_i v3_54), some (jv_i x4_85), some (jv_i x5_85), none] []) ?_
    intro K85 hK85 x4_85 x5_85 gl_85 h
    refine jv_iload C dX8_judge_85 rfl ?_
    refine jv_aload_n C dX8_judge_87 rfl ?_
    refine jv_geti C kf_X8_228 sS_0 rfl dX8_judge_88 ?_
    obtain ⟨hr_91, h1_91, h2_91⟩ := h
    refine jv_icmp_ge (tgt := 141) C hr_91.1 hr_91.2 dX8_judge_91 rfl (fun hc_91 => ?_) (fun hc_91 => ?_)
    · replace h := h1_91 hc_91
      refine jv_iload C dX8_judge_141 rfl ?_
      exact jv_xret (jv_iret C hr hlk ⟨_, rfl, h⟩ dX8_judge_143 ⟨rfl, rfl⟩)
    · replace h := h2_91 hc_91
      refine jv_aload_n C dX8_judge_94 rfl ?_
      refine jv_iload C dX8_judge_95 rfl ?_
      refine jv_callVi C (M_X8_keptStreak h) kw_X8_273 sS_0 rfl rfl ⟨rfl, rfl⟩ (st := []) rfl rfl ⟨rfl, rfl⟩ dX8_judge_97 (fun r_97 g_97 h => ?_)
      refine jv_istore (ls' := [some (.ref (s0.heap.size + (0 : Int).toNat)), some (jv_i a1), none, some (jv_i v3_54), some (jv_i x4_85), some (jv_i x5_85), some (jv_i r_97)]) C dX8_judge_100 (Nat.lt_of_lt_of_eq (Nat.le_of_ble_eq_true rfl) hml) rfl ?_
      refine jv_aload_n C dX8_judge_102 rfl ?_
      refine jv_getr C kf_X8_45 sS_0 rfl dX8_judge_103 ?_
      refine jv_iload C dX8_judge_106 rfl ?_
      obtain ⟨hb_108, h⟩ := h
      refine jv_aaldS C hb_108 dX8_judge_108 ?_
      refine jv_iload_n C dX8_judge_109 rfl ?_
      refine jv_iload_n C dX8_judge_110 rfl ?_
      refine jv_callVv C (M_X4_payBack (jv_sv hb_108.1 hb_108.2) h) kw_X8_276 (jv_sv hb_108.1 hb_108.2).1 rfl rfl ⟨rfl, rfl⟩ (st := []) rfl rfl ⟨rfl, rfl⟩ dX8_judge_111 (fun g_111 h => ?_)
      refine jv_aload_n C dX8_judge_114 rfl ?_
      refine jv_iload C dX8_judge_115 rfl ?_
      refine jv_iload_n C dX8_judge_117 rfl ?_
      refine jv_callVv C (M_X8_countIfSolved h) kw_X8_279 sS_0 rfl rfl ⟨rfl, rfl⟩ (st := []) rfl rfl ⟨rfl, rfl⟩ dX8_judge_118 (fun g_118 h => ?_)
      refine jv_aload_n C dX8_judge_121 rfl ?_
      refine jv_iload C dX8_judge_122 rfl ?_
      refine jv_callVi C (M_X8_keptStreak h) kw_X8_273 sS_0 rfl rfl ⟨rfl, rfl⟩ (st := []) rfl rfl ⟨rfl, rfl⟩ dX8_judge_124 (fun r_124 g_124 h => ?_)
      refine jv_iload C dX8_judge_127 rfl ?_
      have hJ135 : ∀ (x4_135 : Int) (gj_135 : jv_Mem), wB_X8_judge_135 K85 x5_85 x4_135 gj_135 → jv_V p l e (jv_rm 7 116 3 18) s m args below meth c 2 12 (jv_ZX below s0 D ids jv_SH (jv_qi Q) Qx args s 3 18) s0 D ids none jv_SH gj_135 135 [some (.ref (s0.heap.size + (0 : Int).toNat)), some (jv_i a1), none, some (jv_i v3_54), some (jv_i x4_135), some (jv_i x5_85), none] [] := by
        intro x4_135 gj_135 h
        unfold wB_X8_judge_135 at h
        refine jv_iincn C dX8_judge_135 (Nat.lt_of_lt_of_eq (Nat.le_of_ble_eq_true rfl) hml) rfl (fun v5_135 ev5_135 => ?_)
        replace h := h v5_135 ev5_135
        refine jv_lset (ls' := [some (.ref (s0.heap.size + (0 : Int).toNat)), some (jv_i a1), none, some (jv_i v3_54), some (jv_i x4_135), some (jv_i v5_135), none]) rfl ?_
        refine jv_goto (tgt := 85) C dX8_judge_138 rfl ?_
        exact jv_less (ls' := [some (.ref (s0.heap.size + (0 : Int).toNat)), some (jv_i a1), none, some (jv_i v3_54), some (jv_i x4_135), some (jv_i v5_135), none]) ⟨rfl, ⟨rfl, ⟨rfl, ⟨rfl, ⟨rfl, trivial⟩⟩⟩⟩⟩ (hK85 _ _ _ h)
      obtain ⟨hr_129, h1_129, h2_129⟩ := h
      refine jv_icmp_le (tgt := 135) C hr_129.1 hr_129.2 dX8_judge_129 rfl (fun hc_129 => ?_) (fun hc_129 => ?_)
      · replace h := h1_129 hc_129
        exact jv_less (ls' := [some (.ref (s0.heap.size + (0 : Int).toNat)), some (jv_i a1), none, some (jv_i v3_54), some (jv_i x4_85), some (jv_i x5_85), none]) ⟨rfl, ⟨rfl, ⟨rfl, ⟨rfl, ⟨rfl, trivial⟩⟩⟩⟩⟩ (hJ135 _ _ h)
      · replace h := h2_129 hc_129
        refine jv_iincn C dX8_judge_132 (Nat.lt_of_lt_of_eq (Nat.le_of_ble_eq_true rfl) hml) rfl (fun v4_132 ev4_132 => ?_)
        replace h := h v4_132 ev4_132
        refine jv_lset (ls' := [some (.ref (s0.heap.size + (0 : Int).toNat)), some (jv_i a1), none, some (jv_i v3_54), some (jv_i v4_132), some (jv_i x5_85), some (jv_i r_97)]) rfl ?_
        exact jv_less (ls' := [some (.ref (s0.heap.size + (0 : Int).toNat)), some (jv_i a1), none, some (jv_i v3_54), some (jv_i v4_132), some (jv_i x5_85), none]) ⟨rfl, ⟨rfl, ⟨rfl, ⟨rfl, ⟨rfl, trivial⟩⟩⟩⟩⟩ (hJ135 _ _ h)
  · replace h := h2_24 hc_24
    exact jt_X8_judge C hT hlk hxt ⟨rfl, rfl⟩ ⟨rfl, rfl⟩ h ⟨rfl, rfl⟩

def wp_X8_solvedAt (a1 : Int) (a2 : Int) (Q : Int → jv_Mem → Prop) (Qx : String → jv_Mem → Prop) (g : jv_Mem) : Prop :=
  (wp_X8_needIndex a1 (g 0 10) (fun (g_5 : jv_Mem) => (wp_X8_needIndex a2 (g_5 0 9) (fun (g_13 : jv_Mem) => (((0 : Int) ≤ a2 ∧ a2 < (20 : Int)) ∧ (((0 : Int) ≤ a1 ∧ a1 < (6 : Int)) ∧ (wp_X3_openCells (30 + 3 * a2) (fun (r_34 : Int) (g_34 : jv_Mem) => (wp_X3_hourOfAppearing (30 + 3 * a2) (fun (r_38 : Int) (g_38 : jv_Mem) => (wp_X2_solvedHour (90 + 6 * a1 + 1) a2 r_34 r_38 (fun (r_41 : Int) (g_41 : jv_Mem) => Q r_41 g_41) g_38)) g_34)) g_13)))) (fun (E : String) (gx : jv_Mem) => Qx E gx) g_5)) (fun (E : String) (gx : jv_Mem) => Qx E gx) g)
set_option maxHeartbeats 4000000 in
set_option maxRecDepth 100000 in
theorem M_X8_solvedAt {l : Launch} {s0 : State} {b0 : Addr} {D : va_G} {ids : Nat → ClassId} {g : jv_Mem} {a1 : Int} {a2 : Int} {Q : Int → jv_Mem → Prop} {Qx : String → jv_Mem → Prop} (hT : jv_T l s0 b0) (h : wp_X8_solvedAt a1 a2 Q Qx g) : jv_MX l s0 b0 D ids yX8_solvedAt cX8_solvedAt 4 (some .int) 7 116 2 12 jv_SH g [.ref (s0.heap.size + (0 : Int).toNat), jv_i a1, jv_i a2] (jv_qi Q) Qx := by
  refine jv_MX.of (by decide +kernel) rfl rfl (fun p e s m args below meth c C hml hr hlk hxt => ?_)
  replace C : jv_C p s m args c cX8_solvedAt RX8 s0 b0 D ids := C
  show jv_V p l e (jv_rm 7 116 2 12) s m args below meth c 0 0 (jv_ZX below s0 D ids jv_SH (jv_qi Q) Qx args s 2 12) s0 D ids none jv_SH g 0 [some (.ref (s0.heap.size + (0 : Int).toNat)), some (jv_i a1), some (jv_i a2), none] []
  unfold wp_X8_solvedAt at h
  refine jv_iload_n C dX8_solvedAt_0 rfl ?_
  refine jv_aload_n C dX8_solvedAt_1 rfl ?_
  refine jv_geti C kf_X8_228 sS_0 rfl dX8_solvedAt_2 ?_
  refine jv_callSXv C (M_X8_needIndex hT h) kw_X8_69 rfl ⟨rfl, rfl⟩ (st := []) rfl rfl ⟨rfl, rfl⟩ dX8_solvedAt_5 (fun g_5 h => ?_) (fun E gx h => ?_)
  rotate_left 1
  · exact jv_xout hxt hlk h ⟨rfl, rfl⟩
  refine jv_iload_n C dX8_solvedAt_8 rfl ?_
  refine jv_aload_n C dX8_solvedAt_9 rfl ?_
  refine jv_geti C kf_X8_204 sS_0 rfl dX8_solvedAt_10 ?_
  refine jv_callSXv C (M_X8_needIndex hT h) kw_X8_69 rfl ⟨rfl, rfl⟩ (st := []) rfl rfl ⟨rfl, rfl⟩ dX8_solvedAt_13 (fun g_13 h => ?_) (fun E gx h => ?_)
  rotate_left 1
  · exact jv_xout hxt hlk h ⟨rfl, rfl⟩
  refine jv_aload_n C dX8_solvedAt_16 rfl ?_
  refine jv_getr C kf_X8_39 sS_0 rfl dX8_solvedAt_17 ?_
  refine jv_iload_n C dX8_solvedAt_20 rfl ?_
  obtain ⟨hb_21, h⟩ := h
  refine jv_aaldP C hb_21 dX8_solvedAt_21 ?_
  refine jv_astore_n (ls' := [some (.ref (s0.heap.size + (0 : Int).toNat)), some (jv_i a1), some (jv_i a2), some (.ref (s0.heap.size + (30 + 3 * a2 : Int).toNat))]) C dX8_solvedAt_22 (Nat.lt_of_lt_of_eq (Nat.le_of_ble_eq_true rfl) hml) rfl ?_
  refine jv_aload_n C dX8_solvedAt_23 rfl ?_
  refine jv_getr C kf_X8_45 sS_0 rfl dX8_solvedAt_24 ?_
  refine jv_iload_n C dX8_solvedAt_27 rfl ?_
  obtain ⟨hb_28, h⟩ := h
  refine jv_aaldS C hb_28 dX8_solvedAt_28 ?_
  refine jv_callV C (M_X4_progress (jv_sv hb_28.1 hb_28.2)) kw_X8_282 (jv_sv hb_28.1 hb_28.2).1 rfl rfl ⟨rfl, rfl⟩ (st := []) rfl rfl ⟨rfl, rfl⟩ dX8_solvedAt_29 ?_
  rintro _ g_29 ⟨rfl, rfl⟩
  show jv_V p l e (jv_rm 7 116 2 12) s m args below meth c 2 12 (jv_ZX below s0 D ids jv_SH (jv_qi Q) Qx args s 2 12) s0 D ids none jv_SH g_13 32 [some (.ref (s0.heap.size + (0 : Int).toNat)), some (jv_i a1), some (jv_i a2), some (.ref (s0.heap.size + (30 + 3 * a2 : Int).toNat))] [.ref (s0.heap.size + (90 + 6 * a1 + 1 : Int).toNat)]
  refine jv_iload_n C dX8_solvedAt_32 rfl ?_
  refine jv_aload_n C dX8_solvedAt_33 rfl ?_
  refine jv_callVi C (M_X3_openCells (jv_pz hb_21.1 hb_21.2) h) kw_X8_264 (jv_pz hb_21.1 hb_21.2).1 rfl rfl ⟨rfl, rfl⟩ (st := [jv_i a2, .ref (s0.heap.size + (90 + 6 * a1 + 1 : Int).toNat)]) rfl rfl ⟨rfl, rfl⟩ dX8_solvedAt_34 (fun r_34 g_34 h => ?_)
  refine jv_aload_n C dX8_solvedAt_37 rfl ?_
  refine jv_callVi C (M_X3_hourOfAppearing (jv_pz hb_21.1 hb_21.2) h) kw_X8_286 (jv_pz hb_21.1 hb_21.2).1 rfl rfl ⟨rfl, rfl⟩ (st := [jv_i r_34, jv_i a2, .ref (s0.heap.size + (90 + 6 * a1 + 1 : Int).toNat)]) rfl rfl ⟨rfl, rfl⟩ dX8_solvedAt_38 (fun r_38 g_38 h => ?_)
  refine jv_callVi C (M_X2_solvedHour (jv_sv hb_28.1 hb_28.2).2.2.2 h) kw_X8_289 (jv_sv hb_28.1 hb_28.2).2.2.2.1 rfl rfl ⟨rfl, rfl⟩ (st := []) rfl rfl ⟨rfl, rfl⟩ dX8_solvedAt_41 (fun r_41 g_41 h => ?_)
  exact jv_xret (jv_iret C hr hlk ⟨_, rfl, h⟩ dX8_solvedAt_44 ⟨rfl, rfl⟩)

def wp_X8_open (a1 : Int) (Q : Int → jv_Mem → Prop) (Qx : String → jv_Mem → Prop) (g : jv_Mem) : Prop :=
  (wp_X8_needIndex a1 (g 0 9) (fun (g_5 : jv_Mem) => (((0 : Int) ≤ a1 ∧ a1 < (20 : Int)) ∧ (wp_X3_openCells (30 + 3 * a1) (fun (r_14 : Int) (g_14 : jv_Mem) => Q r_14 g_14) g_5))) (fun (E : String) (gx : jv_Mem) => Qx E gx) g)
set_option maxHeartbeats 4000000 in
set_option maxRecDepth 100000 in
theorem M_X8_open {l : Launch} {s0 : State} {b0 : Addr} {D : va_G} {ids : Nat → ClassId} {g : jv_Mem} {a1 : Int} {Q : Int → jv_Mem → Prop} {Qx : String → jv_Mem → Prop} (hT : jv_T l s0 b0) (h : wp_X8_open a1 Q Qx g) : jv_MX l s0 b0 D ids yX8_open cX8_open 2 (some .int) 7 116 1 6 jv_SH g [.ref (s0.heap.size + (0 : Int).toNat), jv_i a1] (jv_qi Q) Qx := by
  refine jv_MX.of (by decide +kernel) rfl rfl (fun p e s m args below meth c C hml hr hlk hxt => ?_)
  replace C : jv_C p s m args c cX8_open RX8 s0 b0 D ids := C
  show jv_V p l e (jv_rm 7 116 1 6) s m args below meth c 0 0 (jv_ZX below s0 D ids jv_SH (jv_qi Q) Qx args s 1 6) s0 D ids none jv_SH g 0 [some (.ref (s0.heap.size + (0 : Int).toNat)), some (jv_i a1)] []
  unfold wp_X8_open at h
  refine jv_iload_n C dX8_open_0 rfl ?_
  refine jv_aload_n C dX8_open_1 rfl ?_
  refine jv_geti C kf_X8_204 sS_0 rfl dX8_open_2 ?_
  refine jv_callSXv C (M_X8_needIndex hT h) kw_X8_69 rfl ⟨rfl, rfl⟩ (st := []) rfl rfl ⟨rfl, rfl⟩ dX8_open_5 (fun g_5 h => ?_) (fun E gx h => ?_)
  rotate_left 1
  · exact jv_xout hxt hlk h ⟨rfl, rfl⟩
  refine jv_aload_n C dX8_open_8 rfl ?_
  refine jv_getr C kf_X8_39 sS_0 rfl dX8_open_9 ?_
  refine jv_iload_n C dX8_open_12 rfl ?_
  obtain ⟨hb_13, h⟩ := h
  refine jv_aaldP C hb_13 dX8_open_13 ?_
  refine jv_callVi C (M_X3_openCells (jv_pz hb_13.1 hb_13.2) h) kw_X8_264 (jv_pz hb_13.1 hb_13.2).1 rfl rfl ⟨rfl, rfl⟩ (st := []) rfl rfl ⟨rfl, rfl⟩ dX8_open_14 (fun r_14 g_14 h => ?_)
  exact jv_xret (jv_iret C hr hlk ⟨_, rfl, h⟩ dX8_open_17 ⟨rfl, rfl⟩)

def wp_X8_coins (a1 : Int) (Q : Int → jv_Mem → Prop) (Qx : String → jv_Mem → Prop) (g : jv_Mem) : Prop :=
  (wp_X8_needIndex a1 (g 0 10) (fun (g_5 : jv_Mem) => (((0 : Int) ≤ a1 ∧ a1 < (6 : Int)) ∧ (wp_X4_purse (90 + 6 * a1) (fun (r_14 : Int) (g_14 : jv_Mem) => Q r_14 g_14) g_5))) (fun (E : String) (gx : jv_Mem) => Qx E gx) g)
set_option maxHeartbeats 4000000 in
set_option maxRecDepth 100000 in
theorem M_X8_coins {l : Launch} {s0 : State} {b0 : Addr} {D : va_G} {ids : Nat → ClassId} {g : jv_Mem} {a1 : Int} {Q : Int → jv_Mem → Prop} {Qx : String → jv_Mem → Prop} (hT : jv_T l s0 b0) (h : wp_X8_coins a1 Q Qx g) : jv_MX l s0 b0 D ids yX8_coins cX8_coins 2 (some .int) 7 116 1 6 jv_SH g [.ref (s0.heap.size + (0 : Int).toNat), jv_i a1] (jv_qi Q) Qx := by
  refine jv_MX.of (by decide +kernel) rfl rfl (fun p e s m args below meth c C hml hr hlk hxt => ?_)
  replace C : jv_C p s m args c cX8_coins RX8 s0 b0 D ids := C
  show jv_V p l e (jv_rm 7 116 1 6) s m args below meth c 0 0 (jv_ZX below s0 D ids jv_SH (jv_qi Q) Qx args s 1 6) s0 D ids none jv_SH g 0 [some (.ref (s0.heap.size + (0 : Int).toNat)), some (jv_i a1)] []
  unfold wp_X8_coins at h
  refine jv_iload_n C dX8_coins_0 rfl ?_
  refine jv_aload_n C dX8_coins_1 rfl ?_
  refine jv_geti C kf_X8_228 sS_0 rfl dX8_coins_2 ?_
  refine jv_callSXv C (M_X8_needIndex hT h) kw_X8_69 rfl ⟨rfl, rfl⟩ (st := []) rfl rfl ⟨rfl, rfl⟩ dX8_coins_5 (fun g_5 h => ?_) (fun E gx h => ?_)
  rotate_left 1
  · exact jv_xout hxt hlk h ⟨rfl, rfl⟩
  refine jv_aload_n C dX8_coins_8 rfl ?_
  refine jv_getr C kf_X8_45 sS_0 rfl dX8_coins_9 ?_
  refine jv_iload_n C dX8_coins_12 rfl ?_
  obtain ⟨hb_13, h⟩ := h
  refine jv_aaldS C hb_13 dX8_coins_13 ?_
  refine jv_callVi C (M_X4_purse (jv_sv hb_13.1 hb_13.2) h) kw_X8_293 (jv_sv hb_13.1 hb_13.2).1 rfl rfl ⟨rfl, rfl⟩ (st := []) rfl rfl ⟨rfl, rfl⟩ dX8_coins_14 (fun r_14 g_14 h => ?_)
  exact jv_xret (jv_iret C hr hlk ⟨_, rfl, h⟩ dX8_coins_17 ⟨rfl, rfl⟩)

def wp_X8_streak (a1 : Int) (Q : Int → jv_Mem → Prop) (Qx : String → jv_Mem → Prop) (g : jv_Mem) : Prop :=
  (wp_X8_needIndex a1 (g 0 10) (fun (g_5 : jv_Mem) => (wp_X8_keptStreak a1 (fun (r_10 : Int) (g_10 : jv_Mem) => Q r_10 g_10) g_5)) (fun (E : String) (gx : jv_Mem) => Qx E gx) g)
set_option maxHeartbeats 4000000 in
set_option maxRecDepth 100000 in
theorem M_X8_streak {l : Launch} {s0 : State} {b0 : Addr} {D : va_G} {ids : Nat → ClassId} {g : jv_Mem} {a1 : Int} {Q : Int → jv_Mem → Prop} {Qx : String → jv_Mem → Prop} (hT : jv_T l s0 b0) (h : wp_X8_streak a1 Q Qx g) : jv_MX l s0 b0 D ids yX8_streak cX8_streak 2 (some .int) 7 116 1 6 jv_SH g [.ref (s0.heap.size + (0 : Int).toNat), jv_i a1] (jv_qi Q) Qx := by
  refine jv_MX.of (by decide +kernel) rfl rfl (fun p e s m args below meth c C hml hr hlk hxt => ?_)
  replace C : jv_C p s m args c cX8_streak RX8 s0 b0 D ids := C
  show jv_V p l e (jv_rm 7 116 1 6) s m args below meth c 0 0 (jv_ZX below s0 D ids jv_SH (jv_qi Q) Qx args s 1 6) s0 D ids none jv_SH g 0 [some (.ref (s0.heap.size + (0 : Int).toNat)), some (jv_i a1)] []
  unfold wp_X8_streak at h
  refine jv_iload_n C dX8_streak_0 rfl ?_
  refine jv_aload_n C dX8_streak_1 rfl ?_
  refine jv_geti C kf_X8_228 sS_0 rfl dX8_streak_2 ?_
  refine jv_callSXv C (M_X8_needIndex hT h) kw_X8_69 rfl ⟨rfl, rfl⟩ (st := []) rfl rfl ⟨rfl, rfl⟩ dX8_streak_5 (fun g_5 h => ?_) (fun E gx h => ?_)
  rotate_left 1
  · exact jv_xout hxt hlk h ⟨rfl, rfl⟩
  refine jv_aload_n C dX8_streak_8 rfl ?_
  refine jv_iload_n C dX8_streak_9 rfl ?_
  refine jv_callVi C (M_X8_keptStreak h) kw_X8_273 sS_0 rfl rfl ⟨rfl, rfl⟩ (st := []) rfl rfl ⟨rfl, rfl⟩ dX8_streak_10 (fun r_10 g_10 h => ?_)
  exact jv_xret (jv_iret C hr hlk ⟨_, rfl, h⟩ dX8_streak_13 ⟨rfl, rfl⟩)

def wp_X8_streakAnew (a1 : Int) (Q : Int → jv_Mem → Prop) (Qx : String → jv_Mem → Prop) (g : jv_Mem) : Prop :=
  (wp_X8_needIndex a1 (g 0 10) (fun (g_5 : jv_Mem) => (((0 : Int) ≤ a1 ∧ a1 < (6 : Int)) ∧ (wp_X2_hoursAhead (90 + 6 * a1 + 1) (fun (r_21 : Int) (g_21 : jv_Mem) => (wp_X2_begin 26 r_21 (fun (g_24 : jv_Mem) => (∀ g_32 : jv_Mem, g_32 = jv_fill g_24 29 20 0 → jv_lp1 (fun (K37 : Int → jv_Mem → Prop) (x2_37 : Int) (gl_37 : jv_Mem) => (wp_X1_count (fun (r_42 : Int) (g_42 : jv_Mem) => ((jv_r x2_37 ∧ jv_r r_42) ∧ (r_42 ≤ x2_37 → (wp_X2_daysInARow 26 (g_42 0 11) (fun (r_68 : Int) (g_68 : jv_Mem) => Q r_68 g_68) g_42)) ∧ (x2_37 < r_42 → (wp_X8_replay x2_37 a1 (fun (g_51 : jv_Mem) => (∀ v2_54 : Int, v2_54 = x2_37 + 1 → K37 v2_54 g_51)) g_42)))) gl_37)) 0 g_32)) g_21)) g_5))) (fun (E : String) (gx : jv_Mem) => Qx E gx) g)
set_option maxHeartbeats 4000000 in
set_option maxRecDepth 100000 in
theorem M_X8_streakAnew {l : Launch} {s0 : State} {b0 : Addr} {D : va_G} {ids : Nat → ClassId} {g : jv_Mem} {a1 : Int} {Q : Int → jv_Mem → Prop} {Qx : String → jv_Mem → Prop} (hT : jv_T l s0 b0) (h : wp_X8_streakAnew a1 Q Qx g) : jv_MX l s0 b0 D ids yX8_streakAnew cX8_streakAnew 3 (some .int) 7 116 1 6 jv_SH g [.ref (s0.heap.size + (0 : Int).toNat), jv_i a1] (jv_qi Q) Qx := by
  refine jv_MX.of (by decide +kernel) rfl rfl (fun p e s m args below meth c C hml hr hlk hxt => ?_)
  replace C : jv_C p s m args c cX8_streakAnew RX8 s0 b0 D ids := C
  show jv_V p l e (jv_rm 7 116 1 6) s m args below meth c 0 0 (jv_ZX below s0 D ids jv_SH (jv_qi Q) Qx args s 1 6) s0 D ids none jv_SH g 0 [some (.ref (s0.heap.size + (0 : Int).toNat)), some (jv_i a1), none] []
  unfold wp_X8_streakAnew at h
  refine jv_iload_n C dX8_streakAnew_0 rfl ?_
  refine jv_aload_n C dX8_streakAnew_1 rfl ?_
  refine jv_geti C kf_X8_228 sS_0 rfl dX8_streakAnew_2 ?_
  refine jv_callSXv C (M_X8_needIndex hT h) kw_X8_69 rfl ⟨rfl, rfl⟩ (st := []) rfl rfl ⟨rfl, rfl⟩ dX8_streakAnew_5 (fun g_5 h => ?_) (fun E gx h => ?_)
  rotate_left 1
  · exact jv_xout hxt hlk h ⟨rfl, rfl⟩
  refine jv_aload_n C dX8_streakAnew_8 rfl ?_
  refine jv_getr C kf_X8_59 sS_0 rfl dX8_streakAnew_9 ?_
  refine jv_aload_n C dX8_streakAnew_12 rfl ?_
  refine jv_getr C kf_X8_45 sS_0 rfl dX8_streakAnew_13 ?_
  refine jv_iload_n C dX8_streakAnew_16 rfl ?_
  obtain ⟨hb_17, h⟩ := h
  refine jv_aaldS C hb_17 dX8_streakAnew_17 ?_
  refine jv_callV C (M_X4_progress (jv_sv hb_17.1 hb_17.2)) kw_X8_282 (jv_sv hb_17.1 hb_17.2).1 rfl rfl ⟨rfl, rfl⟩ (st := [.ref (s0.heap.size + (26 : Int).toNat)]) rfl rfl ⟨rfl, rfl⟩ dX8_streakAnew_18 ?_
  rintro _ g_18 ⟨rfl, rfl⟩
  show jv_V p l e (jv_rm 7 116 1 6) s m args below meth c 1 6 (jv_ZX below s0 D ids jv_SH (jv_qi Q) Qx args s 1 6) s0 D ids none jv_SH g_5 21 [some (.ref (s0.heap.size + (0 : Int).toNat)), some (jv_i a1), none] [.ref (s0.heap.size + (90 + 6 * a1 + 1 : Int).toNat), .ref (s0.heap.size + (26 : Int).toNat)]
  refine jv_callVi C (M_X2_hoursAhead (jv_sv hb_17.1 hb_17.2).2.2.2 h) kw_X8_296 (jv_sv hb_17.1 hb_17.2).2.2.2.1 rfl rfl ⟨rfl, rfl⟩ (st := [.ref (s0.heap.size + (26 : Int).toNat)]) rfl rfl ⟨rfl, rfl⟩ dX8_streakAnew_21 (fun r_21 g_21 h => ?_)
  refine jv_callVv C (M_X2_begin jv_pg26 h) kw_X8_299 jv_pg26.1 rfl rfl ⟨rfl, rfl⟩ (st := []) rfl rfl ⟨rfl, rfl⟩ dX8_streakAnew_24 (fun g_24 h => ?_)
  refine jv_aload_n C dX8_streakAnew_27 rfl ?_
  refine jv_getr C kf_X8_63 sS_0 rfl dX8_streakAnew_28 ?_
  refine jv_const C dX8_streakAnew_31 ?_
  refine jv_callSv C (Q := fun g' => g' = jv_fill g_24 29 20 0) (M_J7_fill sS_29 rfl rfl) kw_X8_302 rfl ⟨rfl, rfl⟩ (st := []) rfl rfl ⟨rfl, rfl⟩ dX8_streakAnew_32 (fun g_32 eg_32 => ?_)
  replace h := h g_32 eg_32
  refine jv_const C dX8_streakAnew_35 ?_
  refine jv_istore_n (ls' := [some (.ref (s0.heap.size + (0 : Int).toNat)), some (jv_i a1), some (jv_i 0)]) C dX8_streakAnew_36 (Nat.lt_of_lt_of_eq (Nat.le_of_ble_eq_true rfl) hml) rfl ?_
  refine jv_less (ls' := [some (.ref (s0.heap.size + (0 : Int).toNat)), some (jv_i a1), some (jv_i 0)]) ⟨rfl, ⟨rfl, ⟨rfl, trivial⟩⟩⟩ ?_
  refine jv_lp1.use h (fun (x2_37 : Int) (gl_37 : jv_Mem) => jv_V p l e (jv_rm 7 116 1 6) s m args below meth c 1 6 (jv_ZX below s0 D ids jv_SH (jv_qi Q) Qx args s 1 6) s0 D ids none jv_SH gl_37 37 [some (.ref (s0.heap.size + (0 : Int).toNat)), some (jv_i a1), some (jv_i x2_37)] []) ?_
  intro K37 hK37 x2_37 gl_37 h
  refine jv_iload_n C dX8_streakAnew_37 rfl ?_
  refine jv_aload_n C dX8_streakAnew_38 rfl ?_
  refine jv_getr C kf_X8_52 sS_0 rfl dX8_streakAnew_39 ?_
  refine jv_callVi C (M_X1_count h) kw_X8_308 sS_21 rfl rfl ⟨rfl, rfl⟩ (st := [jv_i x2_37]) rfl rfl ⟨rfl, rfl⟩ dX8_streakAnew_42 (fun r_42 g_42 h => ?_)
  obtain ⟨hr_45, h1_45, h2_45⟩ := h
  refine jv_icmp_ge (tgt := 60) C hr_45.1 hr_45.2 dX8_streakAnew_45 rfl (fun hc_45 => ?_) (fun hc_45 => ?_)
  · replace h := h1_45 hc_45
    refine jv_aload_n C dX8_streakAnew_60 rfl ?_
    refine jv_getr C kf_X8_59 sS_0 rfl dX8_streakAnew_61 ?_
    refine jv_aload_n C dX8_streakAnew_64 rfl ?_
    refine jv_geti C kf_X8_190 sS_0 rfl dX8_streakAnew_65 ?_
    refine jv_callVi C (M_X2_daysInARow jv_pg26 h) kw_X8_312 jv_pg26.1 rfl rfl ⟨rfl, rfl⟩ (st := []) rfl rfl ⟨rfl, rfl⟩ dX8_streakAnew_68 (fun r_68 g_68 h => ?_)
    exact jv_xret (jv_iret C hr hlk ⟨_, rfl, h⟩ dX8_streakAnew_71 ⟨rfl, rfl⟩)
  · replace h := h2_45 hc_45
    refine jv_aload_n C dX8_streakAnew_48 rfl ?_
    refine jv_iload_n C dX8_streakAnew_49 rfl ?_
    refine jv_iload_n C dX8_streakAnew_50 rfl ?_
    refine jv_callVv C (M_X8_replay h) kw_X8_309 sS_0 rfl rfl ⟨rfl, rfl⟩ (st := []) rfl rfl ⟨rfl, rfl⟩ dX8_streakAnew_51 (fun g_51 h => ?_)
    refine jv_iincn C dX8_streakAnew_54 (Nat.lt_of_lt_of_eq (Nat.le_of_ble_eq_true rfl) hml) rfl (fun v2_54 ev2_54 => ?_)
    replace h := h v2_54 ev2_54
    refine jv_lset (ls' := [some (.ref (s0.heap.size + (0 : Int).toNat)), some (jv_i a1), some (jv_i v2_54)]) rfl ?_
    refine jv_goto (tgt := 37) C dX8_streakAnew_57 rfl ?_
    exact jv_less (ls' := [some (.ref (s0.heap.size + (0 : Int).toNat)), some (jv_i a1), some (jv_i v2_54)]) ⟨rfl, ⟨rfl, ⟨rfl, trivial⟩⟩⟩ (hK37 _ _ h)

