def wB_X8_addWord_46 (Qx : String → jv_Mem → Prop) (gj_46 : jv_Mem) : Prop :=
  Qx "java/lang/IllegalStateException" gj_46
def wp_X8_addWord (a1 : Int) (Q : Int → jv_Mem → Prop) (Qx : String → jv_Mem → Prop) (g : jv_Mem) : Prop :=
  (wp_X8_needRange a1 0 99 (fun (g_4 : jv_Mem) => (wp_X5_isFull (fun (r_11 : Int) (g_11 : jv_Mem) => ((jv_r r_11) ∧ (r_11 = 0 → wB_X8_addWord_46 Qx g_11) ∧ (¬ r_11 = 0 → (wp_X5_code (fun (r_25 : Int) (g_25 : jv_Mem) => (wp_X7_beginningWith r_25 (fun (r_28 : Int) (g_28 : jv_Mem) => ((jv_r r_28) ∧ (0 < r_28 → wB_X8_addWord_46 Qx g_28) ∧ (r_28 ≤ 0 → (wp_X7_count (fun (r_38 : Int) (g_38 : jv_Mem) => ((jv_r r_38) ∧ (r_38 < 30 → (wp_X5_code (fun (r_64 : Int) (g_64 : jv_Mem) => (wp_X7_add r_64 a1 (fun (r_68 : Int) (g_68 : jv_Mem) => Q r_68 g_68) g_64)) g_38)) ∧ (30 ≤ r_38 → wB_X8_addWord_46 Qx g_38))) g_28)))) g_25)) g_11)))) g_4)) g)
set_option maxHeartbeats 4000000 in
set_option maxRecDepth 100000 in
theorem M_X8_addWord {l : Launch} {s0 : State} {b0 : Addr} {D : va_G} {ids : Nat → ClassId} {g : jv_Mem} {a1 : Int} {Q : Int → jv_Mem → Prop} {Qx : String → jv_Mem → Prop} (hT : jv_T l s0 b0) (h : wp_X8_addWord a1 Q Qx g) : jv_MX l s0 b0 D ids yX8_addWord cX8_addWord 2 (some .int) 6 95 1 6 jv_SH g [.ref (s0.heap.size + (0 : Int).toNat), jv_i a1] (jv_qi Q) Qx := by
  refine jv_MX.of (by decide +kernel) rfl rfl (fun p e s m args below meth c C hml hr hlk hxt => ?_)
  replace C : jv_C p s m args c cX8_addWord RX8 s0 b0 D ids := C
  show jv_V p l e (jv_rm 6 95 1 6) s m args below meth c 0 0 (jv_ZX below s0 D ids jv_SH (jv_qi Q) Qx args s 1 6) s0 D ids none jv_SH g 0 [some (.ref (s0.heap.size + (0 : Int).toNat)), some (jv_i a1)] []
  unfold wp_X8_addWord at h
  refine jv_iload_n C dX8_addWord_0 rfl ?_
  refine jv_const C dX8_addWord_1 ?_
  refine jv_bipush C dX8_addWord_2 (by decide +kernel) ?_
  refine jv_callSv C (M_X8_needRange h) kw_X8_107 rfl ⟨rfl, rfl⟩ (st := []) rfl rfl ⟨rfl, rfl⟩ dX8_addWord_4 (fun g_4 h => ?_)
  refine jv_aload_n C dX8_addWord_7 rfl ?_
  refine jv_getr C kf_X8_10 sS_0 rfl dX8_addWord_8 ?_
  refine jv_callVi C (M_X5_isFull h) kw_X8_111 sS_1 rfl rfl ⟨rfl, rfl⟩ (st := []) rfl rfl ⟨rfl, rfl⟩ dX8_addWord_11 (fun r_11 g_11 h => ?_)
  have hJ46 : ∀ (gj_46 : jv_Mem), wB_X8_addWord_46 Qx gj_46 → jv_V p l e (jv_rm 6 95 1 6) s m args below meth c 0 0 (jv_ZX below s0 D ids jv_SH (jv_qi Q) Qx args s 1 6) s0 D ids none jv_SH gj_46 46 [none, none] [] := by
    intro gj_46 h
    unfold wB_X8_addWord_46 at h
    exact jt_X8_addWord C hT hlk hxt ⟨rfl, rfl⟩ ⟨rfl, rfl⟩ h ⟨rfl, rfl⟩
  obtain ⟨hr_14, h1_14, h2_14⟩ := h
  refine jv_if_eq (tgt := 46) C hr_14 dX8_addWord_14 rfl (fun hc_14 => ?_) (fun hc_14 => ?_)
  · replace h := h1_14 hc_14
    exact jv_less (ls' := [none, none]) trivial (hJ46 _ h)
  · replace h := h2_14 hc_14
    refine jv_aload_n C dX8_addWord_17 rfl ?_
    refine jv_getr C kf_X8_19 sS_0 rfl dX8_addWord_18 ?_
    refine jv_aload_n C dX8_addWord_21 rfl ?_
    refine jv_getr C kf_X8_10 sS_0 rfl dX8_addWord_22 ?_
    refine jv_callVi C (M_X5_code h) kw_X8_115 sS_1 rfl rfl ⟨rfl, rfl⟩ (st := [.ref (s0.heap.size + (3 : Int).toNat)]) rfl rfl ⟨rfl, rfl⟩ dX8_addWord_25 (fun r_25 g_25 h => ?_)
    refine jv_callVi C (M_X7_beginningWith h) kw_X8_118 sS_3 rfl rfl ⟨rfl, rfl⟩ (st := []) rfl rfl ⟨rfl, rfl⟩ dX8_addWord_28 (fun r_28 g_28 h => ?_)
    obtain ⟨hr_31, h1_31, h2_31⟩ := h
    refine jv_if_gt (tgt := 46) C hr_31 dX8_addWord_31 rfl (fun hc_31 => ?_) (fun hc_31 => ?_)
    · replace h := h1_31 hc_31
      exact jv_less (ls' := [none, none]) trivial (hJ46 _ h)
    · replace h := h2_31 hc_31
      refine jv_aload_n C dX8_addWord_34 rfl ?_
      refine jv_getr C kf_X8_19 sS_0 rfl dX8_addWord_35 ?_
      refine jv_callVi C (M_X7_count h) kw_X8_121 sS_3 rfl rfl ⟨rfl, rfl⟩ (st := []) rfl rfl ⟨rfl, rfl⟩ dX8_addWord_38 (fun r_38 g_38 h => ?_)
      refine jv_bipush C dX8_addWord_41 (by decide +kernel) ?_
      obtain ⟨hr_43, h1_43, h2_43⟩ := h
      refine jv_icmp_lt (tgt := 56) C hr_43 ⟨by decide, by decide⟩ dX8_addWord_43 rfl (fun hc_43 => ?_) (fun hc_43 => ?_)
      · replace h := h1_43 hc_43
        refine jv_aload_n C dX8_addWord_56 rfl ?_
        refine jv_getr C kf_X8_19 sS_0 rfl dX8_addWord_57 ?_
        refine jv_aload_n C dX8_addWord_60 rfl ?_
        refine jv_getr C kf_X8_10 sS_0 rfl dX8_addWord_61 ?_
        refine jv_callVi C (M_X5_code h) kw_X8_115 sS_1 rfl rfl ⟨rfl, rfl⟩ (st := [.ref (s0.heap.size + (3 : Int).toNat)]) rfl rfl ⟨rfl, rfl⟩ dX8_addWord_64 (fun r_64 g_64 h => ?_)
        refine jv_iload_n C dX8_addWord_67 rfl ?_
        refine jv_callVi C (M_X7_add h) kw_X8_129 sS_3 rfl rfl ⟨rfl, rfl⟩ (st := []) rfl rfl ⟨rfl, rfl⟩ dX8_addWord_68 (fun r_68 g_68 h => ?_)
        exact jv_xret (jv_iret C hr hlk ⟨_, rfl, h⟩ dX8_addWord_71 ⟨rfl, rfl⟩)
      · replace h := h2_43 hc_43
        exact jv_less (ls' := [none, none]) trivial (hJ46 _ h)

def wp_X8_clue (a1 : Int) (Q : Int → jv_Mem → Prop) (Qx : String → jv_Mem → Prop) (g : jv_Mem) : Prop :=
  (wp_X7_count (fun (r_5 : Int) (g_5 : jv_Mem) => (wp_X8_needIndex a1 r_5 (fun (g_8 : jv_Mem) => (wp_X0_count (fun (r_15 : Int) (g_15 : jv_Mem) => ((jv_r r_15) ∧ (r_15 < 60 → (wp_X0_add a1 (fun (r_38 : Int) (g_38 : jv_Mem) => Q r_38 g_38) g_15)) ∧ (60 ≤ r_15 → Qx "java/lang/IllegalStateException" g_15))) g_8)) g_5)) g)
set_option maxHeartbeats 4000000 in
set_option maxRecDepth 100000 in
theorem M_X8_clue {l : Launch} {s0 : State} {b0 : Addr} {D : va_G} {ids : Nat → ClassId} {g : jv_Mem} {a1 : Int} {Q : Int → jv_Mem → Prop} {Qx : String → jv_Mem → Prop} (hT : jv_T l s0 b0) (h : wp_X8_clue a1 Q Qx g) : jv_MX l s0 b0 D ids yX8_clue cX8_clue 2 (some .int) 6 95 1 6 jv_SH g [.ref (s0.heap.size + (0 : Int).toNat), jv_i a1] (jv_qi Q) Qx := by
  refine jv_MX.of (by decide +kernel) rfl rfl (fun p e s m args below meth c C hml hr hlk hxt => ?_)
  replace C : jv_C p s m args c cX8_clue RX8 s0 b0 D ids := C
  show jv_V p l e (jv_rm 6 95 1 6) s m args below meth c 0 0 (jv_ZX below s0 D ids jv_SH (jv_qi Q) Qx args s 1 6) s0 D ids none jv_SH g 0 [some (.ref (s0.heap.size + (0 : Int).toNat)), some (jv_i a1)] []
  unfold wp_X8_clue at h
  refine jv_iload_n C dX8_clue_0 rfl ?_
  refine jv_aload_n C dX8_clue_1 rfl ?_
  refine jv_getr C kf_X8_19 sS_0 rfl dX8_clue_2 ?_
  refine jv_callVi C (M_X7_count h) kw_X8_121 sS_3 rfl rfl ⟨rfl, rfl⟩ (st := [jv_i a1]) rfl rfl ⟨rfl, rfl⟩ dX8_clue_5 (fun r_5 g_5 h => ?_)
  refine jv_callSv C (M_X8_needIndex h) kw_X8_69 rfl ⟨rfl, rfl⟩ (st := []) rfl rfl ⟨rfl, rfl⟩ dX8_clue_8 (fun g_8 h => ?_)
  refine jv_aload_n C dX8_clue_11 rfl ?_
  refine jv_getr C kf_X8_33 sS_0 rfl dX8_clue_12 ?_
  refine jv_callVi C (M_X0_count h) kw_X8_172 sS_14 rfl rfl ⟨rfl, rfl⟩ (st := []) rfl rfl ⟨rfl, rfl⟩ dX8_clue_15 (fun r_15 g_15 h => ?_)
  refine jv_bipush C dX8_clue_18 (by decide +kernel) ?_
  obtain ⟨hr_20, h1_20, h2_20⟩ := h
  refine jv_icmp_lt (tgt := 33) C hr_20 ⟨by decide, by decide⟩ dX8_clue_20 rfl (fun hc_20 => ?_) (fun hc_20 => ?_)
  · replace h := h1_20 hc_20
    refine jv_aload_n C dX8_clue_33 rfl ?_
    refine jv_getr C kf_X8_33 sS_0 rfl dX8_clue_34 ?_
    refine jv_iload_n C dX8_clue_37 rfl ?_
    refine jv_callVi C (M_X0_add h) kw_X8_175 sS_14 rfl rfl ⟨rfl, rfl⟩ (st := []) rfl rfl ⟨rfl, rfl⟩ dX8_clue_38 (fun r_38 g_38 h => ?_)
    exact jv_xret (jv_iret C hr hlk ⟨_, rfl, h⟩ dX8_clue_41 ⟨rfl, rfl⟩)
  · replace h := h2_20 hc_20
    exact jt_X8_clue C hT hlk hxt ⟨rfl, rfl⟩ ⟨rfl, rfl⟩ h ⟨rfl, rfl⟩

def wp_X8_edit (a1 : Int) (a2 : Int) (Q : Int → jv_Mem → Prop) (Qx : String → jv_Mem → Prop) (g : jv_Mem) : Prop :=
  (wp_X0_count (fun (r_5 : Int) (g_5 : jv_Mem) => (wp_X8_needIndex a1 r_5 (fun (g_8 : jv_Mem) => (wp_X0_isReady a1 (fun (r_16 : Int) (g_16 : jv_Mem) => ((jv_r r_16) ∧ (r_16 = 0 → (wp_X0_look a1 a2 (fun (r_38 : Int) (g_38 : jv_Mem) => Q r_38 g_38) g_16)) ∧ (¬ r_16 = 0 → Qx "java/lang/IllegalStateException" g_16))) g_8)) g_5)) g)
set_option maxHeartbeats 4000000 in
set_option maxRecDepth 100000 in
theorem M_X8_edit {l : Launch} {s0 : State} {b0 : Addr} {D : va_G} {ids : Nat → ClassId} {g : jv_Mem} {a1 : Int} {a2 : Int} {Q : Int → jv_Mem → Prop} {Qx : String → jv_Mem → Prop} (hT : jv_T l s0 b0) (h : wp_X8_edit a1 a2 Q Qx g) : jv_MX l s0 b0 D ids yX8_edit cX8_edit 3 (some .int) 6 95 1 6 jv_SH g [.ref (s0.heap.size + (0 : Int).toNat), jv_i a1, jv_i a2] (jv_qi Q) Qx := by
  refine jv_MX.of (by decide +kernel) rfl rfl (fun p e s m args below meth c C hml hr hlk hxt => ?_)
  replace C : jv_C p s m args c cX8_edit RX8 s0 b0 D ids := C
  show jv_V p l e (jv_rm 6 95 1 6) s m args below meth c 0 0 (jv_ZX below s0 D ids jv_SH (jv_qi Q) Qx args s 1 6) s0 D ids none jv_SH g 0 [some (.ref (s0.heap.size + (0 : Int).toNat)), some (jv_i a1), some (jv_i a2)] []
  unfold wp_X8_edit at h
  refine jv_iload_n C dX8_edit_0 rfl ?_
  refine jv_aload_n C dX8_edit_1 rfl ?_
  refine jv_getr C kf_X8_33 sS_0 rfl dX8_edit_2 ?_
  refine jv_callVi C (M_X0_count h) kw_X8_172 sS_14 rfl rfl ⟨rfl, rfl⟩ (st := [jv_i a1]) rfl rfl ⟨rfl, rfl⟩ dX8_edit_5 (fun r_5 g_5 h => ?_)
  refine jv_callSv C (M_X8_needIndex h) kw_X8_69 rfl ⟨rfl, rfl⟩ (st := []) rfl rfl ⟨rfl, rfl⟩ dX8_edit_8 (fun g_8 h => ?_)
  refine jv_aload_n C dX8_edit_11 rfl ?_
  refine jv_getr C kf_X8_33 sS_0 rfl dX8_edit_12 ?_
  refine jv_iload_n C dX8_edit_15 rfl ?_
  refine jv_callVi C (M_X0_isReady h) kw_X8_177 sS_14 rfl rfl ⟨rfl, rfl⟩ (st := []) rfl rfl ⟨rfl, rfl⟩ dX8_edit_16 (fun r_16 g_16 h => ?_)
  obtain ⟨hr_19, h1_19, h2_19⟩ := h
  refine jv_if_eq (tgt := 32) C hr_19 dX8_edit_19 rfl (fun hc_19 => ?_) (fun hc_19 => ?_)
  · replace h := h1_19 hc_19
    refine jv_aload_n C dX8_edit_32 rfl ?_
    refine jv_getr C kf_X8_33 sS_0 rfl dX8_edit_33 ?_
    refine jv_iload_n C dX8_edit_36 rfl ?_
    refine jv_iload_n C dX8_edit_37 rfl ?_
    refine jv_callVi C (M_X0_look h) kw_X8_183 sS_14 rfl rfl ⟨rfl, rfl⟩ (st := []) rfl rfl ⟨rfl, rfl⟩ dX8_edit_38 (fun r_38 g_38 h => ?_)
    exact jv_xret (jv_iret C hr hlk ⟨_, rfl, h⟩ dX8_edit_41 ⟨rfl, rfl⟩)
  · replace h := h2_19 hc_19
    exact jt_X8_edit C hT hlk hxt ⟨rfl, rfl⟩ ⟨rfl, rfl⟩ h ⟨rfl, rfl⟩

def wB_X8_publish_14 (Qx : String → jv_Mem → Prop) (gj_14 : jv_Mem) : Prop :=
  Qx "java/lang/IllegalStateException" gj_14
def wp_X8_publish (Q : Int → jv_Mem → Prop) (Qx : String → jv_Mem → Prop) (g : jv_Mem) : Prop :=
  (wp_X8_mayPublishToday (fun (r_1 : Int) (g_1 : jv_Mem) => ((jv_r r_1) ∧ (r_1 = 0 → wB_X8_publish_14 Qx g_1) ∧ (¬ r_1 = 0 → (wp_X8_findClues (fun (r_8 : Int) (g_8 : jv_Mem) => ((jv_r r_8) ∧ (¬ r_8 = 0 → (((0 : Int) ≤ g_8 0 9 ∧ g_8 0 9 < (20 : Int)) ∧ (wp_X3_appear (30 + 3 * (g_8 0 9)) (g_8 0 11) (fun (g_39 : jv_Mem) => jv_lp1 (fun (K44 : Int → jv_Mem → Prop) (x2_44 : Int) (gl_44 : jv_Mem) => ((jv_r x2_44) ∧ (9 ≤ x2_44 → jv_lp1 (fun (K75 : Int → jv_Mem → Prop) (x2_75 : Int) (gl_75 : jv_Mem) => ((jv_r x2_75) ∧ (6 ≤ x2_75 → (wp_X8_today (fun (r_105 : Int) (g_105 : jv_Mem) => (wp_X0_useChosen r_105 (fun (g_108 : jv_Mem) => (∀ g_118 : jv_Mem, g_118 = jv_up g_108 0 9 ((g_108 0 9) + 1) → Q ((g_118 0 9) - 1) g_118)) g_105)) gl_75)) ∧ (x2_75 < 6 → (wp_X0_chosen x2_75 (fun (r_88 : Int) (g_88 : jv_Mem) => (wp_X3_setClue (30 + 3 * (g_8 0 9)) x2_75 r_88 (fun (g_91 : jv_Mem) => (∀ v2_94 : Int, v2_94 = x2_75 + 1 → K75 v2_94 g_91)) g_88)) gl_75)))) 0 gl_44) ∧ (x2_44 < 9 → (wp_X6_bestLetter x2_44 (fun (r_61 : Int) (g_61 : jv_Mem) => (wp_X3_setLetter (30 + 3 * (g_8 0 9)) x2_44 r_61 (fun (g_64 : jv_Mem) => (∀ v2_67 : Int, v2_67 = x2_44 + 1 → K44 v2_67 g_64)) g_61)) gl_44)))) 0 g_39) g_8))) ∧ (r_8 = 0 → wB_X8_publish_14 Qx g_8))) g_1)))) g)
set_option maxHeartbeats 4000000 in
set_option maxRecDepth 100000 in
theorem M_X8_publish {l : Launch} {s0 : State} {b0 : Addr} {D : va_G} {ids : Nat → ClassId} {g : jv_Mem} {Q : Int → jv_Mem → Prop} {Qx : String → jv_Mem → Prop} (hT : jv_T l s0 b0) (h : wp_X8_publish Q Qx g) : jv_MX l s0 b0 D ids yX8_publish cX8_publish 3 (some .int) 6 116 1 6 jv_SH g [.ref (s0.heap.size + (0 : Int).toNat)] (jv_qi Q) Qx := by
  refine jv_MX.of (by decide +kernel) rfl rfl (fun p e s m args below meth c C hml hr hlk hxt => ?_)
  replace C : jv_C p s m args c cX8_publish RX8 s0 b0 D ids := C
  show jv_V p l e (jv_rm 6 116 1 6) s m args below meth c 0 0 (jv_ZX below s0 D ids jv_SH (jv_qi Q) Qx args s 1 6) s0 D ids none jv_SH g 0 [some (.ref (s0.heap.size + (0 : Int).toNat)), none, none] []
  unfold wp_X8_publish at h
  refine jv_aload_n C dX8_publish_0 rfl ?_
  refine jv_callVi C (M_X8_mayPublishToday h) kw_X8_196 sS_0 rfl rfl ⟨rfl, rfl⟩ (st := []) rfl rfl ⟨rfl, rfl⟩ dX8_publish_1 (fun r_1 g_1 h => ?_)
  have hJ14 : ∀ (gj_14 : jv_Mem), wB_X8_publish_14 Qx gj_14 → jv_V p l e (jv_rm 6 116 1 6) s m args below meth c 0 0 (jv_ZX below s0 D ids jv_SH (jv_qi Q) Qx args s 1 6) s0 D ids none jv_SH gj_14 14 [none, none, none] [] := by
    intro gj_14 h
    unfold wB_X8_publish_14 at h
    exact jt_X8_publish C hT hlk hxt ⟨rfl, rfl⟩ ⟨rfl, rfl⟩ h ⟨rfl, rfl⟩
  obtain ⟨hr_4, h1_4, h2_4⟩ := h
  refine jv_if_eq (tgt := 14) C hr_4 dX8_publish_4 rfl (fun hc_4 => ?_) (fun hc_4 => ?_)
  · replace h := h1_4 hc_4
    exact jv_less (ls' := [none, none, none]) trivial (hJ14 _ h)
  · replace h := h2_4 hc_4
    refine jv_aload_n C dX8_publish_7 rfl ?_
    refine jv_callVi C (M_X8_findClues h) kw_X8_199 sS_0 rfl rfl ⟨rfl, rfl⟩ (st := []) rfl rfl ⟨rfl, rfl⟩ dX8_publish_8 (fun r_8 g_8 h => ?_)
    obtain ⟨hr_11, h1_11, h2_11⟩ := h
    refine jv_if_ne (tgt := 24) C hr_11 dX8_publish_11 rfl (fun hc_11 => ?_) (fun hc_11 => ?_)
    · replace h := h1_11 hc_11
      refine jv_aload_n C dX8_publish_24 rfl ?_
      refine jv_getr C kf_X8_39 sS_0 rfl dX8_publish_25 ?_
      refine jv_aload_n C dX8_publish_28 rfl ?_
      refine jv_geti C kf_X8_204 sS_0 rfl dX8_publish_29 ?_
      obtain ⟨hb_32, h⟩ := h
      refine jv_aaldP C hb_32 dX8_publish_32 ?_
      refine jv_astore_n (ls' := [some (.ref (s0.heap.size + (0 : Int).toNat)), some (.ref (s0.heap.size + (30 + 3 * (g_8 0 9) : Int).toNat)), none]) C dX8_publish_33 (Nat.lt_of_lt_of_eq (Nat.le_of_ble_eq_true rfl) hml) rfl ?_
      refine jv_aload_n C dX8_publish_34 rfl ?_
      refine jv_aload_n C dX8_publish_35 rfl ?_
      refine jv_geti C kf_X8_190 sS_0 rfl dX8_publish_36 ?_
      refine jv_callVv C (M_X3_appear (jv_pz hb_32.1 hb_32.2) h) kw_X8_207 (jv_pz hb_32.1 hb_32.2).1 rfl rfl ⟨rfl, rfl⟩ (st := []) rfl rfl ⟨rfl, rfl⟩ dX8_publish_39 (fun g_39 h => ?_)
      refine jv_const C dX8_publish_42 ?_
      refine jv_istore_n (ls' := [some (.ref (s0.heap.size + (0 : Int).toNat)), some (.ref (s0.heap.size + (30 + 3 * (g_8 0 9) : Int).toNat)), some (jv_i 0)]) C dX8_publish_43 (Nat.lt_of_lt_of_eq (Nat.le_of_ble_eq_true rfl) hml) rfl ?_
      refine jv_less (ls' := [some (.ref (s0.heap.size + (0 : Int).toNat)), some (.ref (s0.heap.size + (30 + 3 * (g_8 0 9) : Int).toNat)), some (jv_i 0)]) ⟨rfl, ⟨rfl, ⟨rfl, trivial⟩⟩⟩ ?_
      refine jv_lp1.use h (fun (x2_44 : Int) (gl_44 : jv_Mem) => jv_V p l e (jv_rm 6 116 1 6) s m args below meth c 0 0 (jv_ZX below s0 D ids jv_SH (jv_qi Q) Qx args s 1 6) s0 D ids none jv_SH gl_44 44 [some (.ref (s0.heap.size + (0 : Int).toNat)), some (.ref (s0.heap.size + (30 + 3 * (g_8 0 9) : Int).toNat)), some (jv_i x2_44)] []) ?_
      intro K44 hK44 x2_44 gl_44 h
      refine jv_iload_n C dX8_publish_44 rfl ?_
      refine jv_bipush C dX8_publish_45 (by decide +kernel) ?_
      obtain ⟨hr_47, h1_47, h2_47⟩ := h
      refine jv_icmp_ge (tgt := 73) C hr_47 ⟨by decide, by decide⟩ dX8_publish_47 rfl (fun hc_47 => ?_) (fun hc_47 => ?_)
      · replace h := h1_47 hc_47
        refine jv_const C dX8_publish_73 ?_
        refine jv_istore_n (ls' := [some (.ref (s0.heap.size + (0 : Int).toNat)), some (.ref (s0.heap.size + (30 + 3 * (g_8 0 9) : Int).toNat)), some (jv_i 0)]) C dX8_publish_74 (Nat.lt_of_lt_of_eq (Nat.le_of_ble_eq_true rfl) hml) rfl ?_
        refine jv_less (ls' := [some (.ref (s0.heap.size + (0 : Int).toNat)), some (.ref (s0.heap.size + (30 + 3 * (g_8 0 9) : Int).toNat)), some (jv_i 0)]) ⟨rfl, ⟨rfl, ⟨rfl, trivial⟩⟩⟩ ?_
        refine jv_lp1.use h (fun (x2_75 : Int) (gl_75 : jv_Mem) => jv_V p l e (jv_rm 6 116 1 6) s m args below meth c 0 0 (jv_ZX below s0 D ids jv_SH (jv_qi Q) Qx args s 1 6) s0 D ids none jv_SH gl_75 75 [some (.ref (s0.heap.size + (0 : Int).toNat)), some (.ref (s0.heap.size + (30 + 3 * (g_8 0 9) : Int).toNat)), some (jv_i x2_75)] []) ?_
        intro K75 hK75 x2_75 gl_75 h
        refine jv_iload_n C dX8_publish_75 rfl ?_
        refine jv_bipush C dX8_publish_76 (by decide +kernel) ?_
        obtain ⟨hr_78, h1_78, h2_78⟩ := h
        refine jv_icmp_ge (tgt := 100) C hr_78 ⟨by decide, by decide⟩ dX8_publish_78 rfl (fun hc_78 => ?_) (fun hc_78 => ?_)
        · replace h := h1_78 hc_78
          refine jv_aload_n C dX8_publish_100 rfl ?_
          refine jv_getr C kf_X8_33 sS_0 rfl dX8_publish_101 ?_
          refine jv_aload_n C dX8_publish_104 rfl ?_
          refine jv_callVi C (M_X8_today h) kw_X8_219 sS_0 rfl rfl ⟨rfl, rfl⟩ (st := [.ref (s0.heap.size + (14 : Int).toNat)]) rfl rfl ⟨rfl, rfl⟩ dX8_publish_105 (fun r_105 g_105 h => ?_)
          refine jv_callVv C (M_X0_useChosen h) kw_X8_222 sS_14 rfl rfl ⟨rfl, rfl⟩ (st := []) rfl rfl ⟨rfl, rfl⟩ dX8_publish_108 (fun g_108 h => ?_)
          refine jv_aload_n C dX8_publish_111 rfl ?_
          refine jv_dup C rfl dX8_publish_112 ?_
          refine jv_geti C kf_X8_204 sS_0 rfl dX8_publish_113 ?_
          refine jv_const C dX8_publish_116 ?_
          refine jv_iadd C dX8_publish_117 ?_
          refine jv_puti C kf_X8_204 sS_0 rfl dX8_publish_118 (jv_gm (fun g_118 eg_118 => ?_))
          replace h := h g_118 eg_118
          refine jv_aload_n C dX8_publish_121 rfl ?_
          refine jv_geti C kf_X8_204 sS_0 rfl dX8_publish_122 ?_
          refine jv_const C dX8_publish_125 ?_
          refine jv_isub C dX8_publish_126 ?_
          exact jv_xret (jv_iret C hr hlk ⟨_, rfl, h⟩ dX8_publish_127 ⟨rfl, rfl⟩)
        · replace h := h2_78 hc_78
          refine jv_aload_n C dX8_publish_81 rfl ?_
          refine jv_iload_n C dX8_publish_82 rfl ?_
          refine jv_aload_n C dX8_publish_83 rfl ?_
          refine jv_getr C kf_X8_33 sS_0 rfl dX8_publish_84 ?_
          refine jv_iload_n C dX8_publish_87 rfl ?_
          refine jv_callVi C (M_X0_chosen h) kw_X8_213 sS_14 rfl rfl ⟨rfl, rfl⟩ (st := [jv_i x2_75, .ref (s0.heap.size + (30 + 3 * (g_8 0 9) : Int).toNat)]) rfl rfl ⟨rfl, rfl⟩ dX8_publish_88 (fun r_88 g_88 h => ?_)
          refine jv_callVv C (M_X3_setClue (jv_pz hb_32.1 hb_32.2) h) kw_X8_216 (jv_pz hb_32.1 hb_32.2).1 rfl rfl ⟨rfl, rfl⟩ (st := []) rfl rfl ⟨rfl, rfl⟩ dX8_publish_91 (fun g_91 h => ?_)
          refine jv_iincn C dX8_publish_94 (Nat.lt_of_lt_of_eq (Nat.le_of_ble_eq_true rfl) hml) rfl (fun v2_94 ev2_94 => ?_)
          replace h := h v2_94 ev2_94
          refine jv_lset (ls' := [some (.ref (s0.heap.size + (0 : Int).toNat)), some (.ref (s0.heap.size + (30 + 3 * (g_8 0 9) : Int).toNat)), some (jv_i v2_94)]) rfl ?_
          refine jv_goto (tgt := 75) C dX8_publish_97 rfl ?_
          exact jv_less (ls' := [some (.ref (s0.heap.size + (0 : Int).toNat)), some (.ref (s0.heap.size + (30 + 3 * (g_8 0 9) : Int).toNat)), some (jv_i v2_94)]) ⟨rfl, ⟨rfl, ⟨rfl, trivial⟩⟩⟩ (hK75 _ _ h)
      · replace h := h2_47 hc_47
        refine jv_aload_n C dX8_publish_50 rfl ?_
        refine jv_iload_n C dX8_publish_51 rfl ?_
        refine jv_aload_n C dX8_publish_52 rfl ?_
        refine jv_getr C kf_X8_26 sS_0 rfl dX8_publish_53 ?_
        refine jv_aload_n C dX8_publish_56 rfl ?_
        refine jv_getr C kf_X8_19 sS_0 rfl dX8_publish_57 ?_
        refine jv_iload_n C dX8_publish_60 rfl ?_
        refine jv_callVi C (M_X6_bestLetter h) kw_X8_168 sS_10 rfl rfl ⟨rfl, rfl⟩ (st := [jv_i x2_44, .ref (s0.heap.size + (30 + 3 * (g_8 0 9) : Int).toNat)]) rfl rfl ⟨rfl, rfl⟩ dX8_publish_61 (fun r_61 g_61 h => ?_)
        refine jv_callVv C (M_X3_setLetter (jv_pz hb_32.1 hb_32.2) h) kw_X8_210 (jv_pz hb_32.1 hb_32.2).1 rfl rfl ⟨rfl, rfl⟩ (st := []) rfl rfl ⟨rfl, rfl⟩ dX8_publish_64 (fun g_64 h => ?_)
        refine jv_iincn C dX8_publish_67 (Nat.lt_of_lt_of_eq (Nat.le_of_ble_eq_true rfl) hml) rfl (fun v2_67 ev2_67 => ?_)
        replace h := h v2_67 ev2_67
        refine jv_lset (ls' := [some (.ref (s0.heap.size + (0 : Int).toNat)), some (.ref (s0.heap.size + (30 + 3 * (g_8 0 9) : Int).toNat)), some (jv_i v2_67)]) rfl ?_
        refine jv_goto (tgt := 44) C dX8_publish_70 rfl ?_
        exact jv_less (ls' := [some (.ref (s0.heap.size + (0 : Int).toNat)), some (.ref (s0.heap.size + (30 + 3 * (g_8 0 9) : Int).toNat)), some (jv_i v2_67)]) ⟨rfl, ⟨rfl, ⟨rfl, trivial⟩⟩⟩ (hK44 _ _ h)
    · replace h := h2_11 hc_11
      exact jv_less (ls' := [none, none, none]) trivial (hJ14 _ h)

def wB_X8_needUnfinished_30 (Qx : String → jv_Mem → Prop) (gj_30 : jv_Mem) : Prop :=
  Qx "java/lang/IllegalStateException" gj_30
def wp_X8_needUnfinished (a1 : Int) (a2 : Int) (a3 : Int) (Q : jv_Mem → Prop) (Qx : String → jv_Mem → Prop) (g : jv_Mem) : Prop :=
  (((0 : Int) ≤ a1 ∧ a1 < (6 : Int)) ∧ (wp_X2_isRight (90 + 6 * a1 + 1) a2 a3 (fun (r_11 : Int) (g_11 : jv_Mem) => ((jv_r r_11) ∧ (¬ r_11 = 0 → wB_X8_needUnfinished_30 Qx g_11) ∧ (r_11 = 0 → (((0 : Int) ≤ a2 ∧ a2 < (20 : Int)) ∧ (wp_X3_isOpen (30 + 3 * a2) a3 (fun (r_24 : Int) (g_24 : jv_Mem) => ((jv_r r_24) ∧ (r_24 = 0 → Q g_24) ∧ (¬ r_24 = 0 → wB_X8_needUnfinished_30 Qx g_24))) g_11))))) g))
set_option maxHeartbeats 4000000 in
set_option maxRecDepth 100000 in
theorem M_X8_needUnfinished {l : Launch} {s0 : State} {b0 : Addr} {D : va_G} {ids : Nat → ClassId} {g : jv_Mem} {a1 : Int} {a2 : Int} {a3 : Int} {Q : jv_Mem → Prop} {Qx : String → jv_Mem → Prop} (hT : jv_T l s0 b0) (h : wp_X8_needUnfinished a1 a2 a3 Q Qx g) : jv_MX l s0 b0 D ids yX8_needUnfinished cX8_needUnfinished 4 none 6 95 1 6 jv_SH g [.ref (s0.heap.size + (0 : Int).toNat), jv_i a1, jv_i a2, jv_i a3] (jv_qv Q) Qx := by
  refine jv_MX.of (by decide +kernel) rfl rfl (fun p e s m args below meth c C hml hr hlk hxt => ?_)
  replace C : jv_C p s m args c cX8_needUnfinished RX8 s0 b0 D ids := C
  show jv_V p l e (jv_rm 6 95 1 6) s m args below meth c 0 0 (jv_ZX below s0 D ids jv_SH (jv_qv Q) Qx args s 1 6) s0 D ids none jv_SH g 0 [some (.ref (s0.heap.size + (0 : Int).toNat)), some (jv_i a1), some (jv_i a2), some (jv_i a3)] []
  unfold wp_X8_needUnfinished at h
  refine jv_aload_n C dX8_needUnfinished_0 rfl ?_
  refine jv_getr C kf_X8_45 sS_0 rfl dX8_needUnfinished_1 ?_
  refine jv_iload_n C dX8_needUnfinished_4 rfl ?_
  obtain ⟨hb_5, h⟩ := h
  refine jv_aaldS C hb_5 dX8_needUnfinished_5 ?_
  refine jv_callV C (M_X4_progress (jv_sv hb_5.1 hb_5.2)) kw_X8_282 (jv_sv hb_5.1 hb_5.2).1 rfl rfl ⟨rfl, rfl⟩ (st := []) rfl rfl ⟨rfl, rfl⟩ dX8_needUnfinished_6 ?_
  rintro _ g_6 ⟨rfl, rfl⟩
  show jv_V p l e (jv_rm 6 95 1 6) s m args below meth c 0 0 (jv_ZX below s0 D ids jv_SH (jv_qv Q) Qx args s 1 6) s0 D ids none jv_SH g 9 [some (.ref (s0.heap.size + (0 : Int).toNat)), some (jv_i a1), some (jv_i a2), some (jv_i a3)] [.ref (s0.heap.size + (90 + 6 * a1 + 1 : Int).toNat)]
  refine jv_iload_n C dX8_needUnfinished_9 rfl ?_
  refine jv_iload_n C dX8_needUnfinished_10 rfl ?_
  refine jv_callVi C (M_X2_isRight (jv_sv hb_5.1 hb_5.2).2.2.2 h) kw_X8_330 (jv_sv hb_5.1 hb_5.2).2.2.2.1 rfl rfl ⟨rfl, rfl⟩ (st := []) rfl rfl ⟨rfl, rfl⟩ dX8_needUnfinished_11 (fun r_11 g_11 h => ?_)
  have hJ30 : ∀ (gj_30 : jv_Mem), wB_X8_needUnfinished_30 Qx gj_30 → jv_V p l e (jv_rm 6 95 1 6) s m args below meth c 0 0 (jv_ZX below s0 D ids jv_SH (jv_qv Q) Qx args s 1 6) s0 D ids none jv_SH gj_30 30 [none, none, none, none] [] := by
    intro gj_30 h
    unfold wB_X8_needUnfinished_30 at h
    exact jt_X8_needUnfinished C hT hlk hxt ⟨rfl, rfl⟩ ⟨rfl, rfl⟩ h ⟨rfl, rfl⟩
  obtain ⟨hr_14, h1_14, h2_14⟩ := h
  refine jv_if_ne (tgt := 30) C hr_14 dX8_needUnfinished_14 rfl (fun hc_14 => ?_) (fun hc_14 => ?_)
  · replace h := h1_14 hc_14
    exact jv_less (ls' := [none, none, none, none]) trivial (hJ30 _ h)
  · replace h := h2_14 hc_14
    refine jv_aload_n C dX8_needUnfinished_17 rfl ?_
    refine jv_getr C kf_X8_39 sS_0 rfl dX8_needUnfinished_18 ?_
    refine jv_iload_n C dX8_needUnfinished_21 rfl ?_
    obtain ⟨hb_22, h⟩ := h
    refine jv_aaldP C hb_22 dX8_needUnfinished_22 ?_
    refine jv_iload_n C dX8_needUnfinished_23 rfl ?_
    refine jv_callVi C (M_X3_isOpen (jv_pz hb_22.1 hb_22.2) h) kw_X8_333 (jv_pz hb_22.1 hb_22.2).1 rfl rfl ⟨rfl, rfl⟩ (st := []) rfl rfl ⟨rfl, rfl⟩ dX8_needUnfinished_24 (fun r_24 g_24 h => ?_)
    obtain ⟨hr_27, h1_27, h2_27⟩ := h
    refine jv_if_eq (tgt := 41) C hr_27 dX8_needUnfinished_27 rfl (fun hc_27 => ?_) (fun hc_27 => ?_)
    · replace h := h1_27 hc_27
      exact jv_xret (jv_vret C hr hlk ⟨rfl, h⟩ dX8_needUnfinished_41 ⟨rfl, rfl⟩)
    · replace h := h2_27 hc_27
      exact jv_less (ls' := [none, none, none, none]) trivial (hJ30 _ h)

def wB_X8_enter_41 (a1 : Int) (a2 : Int) (a3 : Int) (Q : Int → jv_Mem → Prop) (y0_41 : Int) (gj_41 : jv_Mem) : Prop :=
  ((jv_r y0_41) ∧ (y0_41 = 0 → ((y0_41 = 0 ∨ y0_41 = 1) ∧ Q y0_41 gj_41)) ∧ (¬ y0_41 = 0 → (wp_X8_becomeRight a1 a2 a3 (fun (g_52 : jv_Mem) => ((y0_41 = 0 ∨ y0_41 = 1) ∧ Q y0_41 g_52)) gj_41)))
def wp_X8_enter (a1 : Int) (a2 : Int) (a3 : Int) (a4 : Int) (Q : Int → jv_Mem → Prop) (Qx : String → jv_Mem → Prop) (g : jv_Mem) : Prop :=
  (wp_X8_needCellOf a1 a2 a3 (fun (g_4 : jv_Mem) => (wp_X8_needIndex a4 9 (fun (g_11 : jv_Mem) => (wp_X8_needUnfinished a1 a2 a3 (fun (g_18 : jv_Mem) => (((0 : Int) ≤ a2 ∧ a2 < (20 : Int)) ∧ (wp_X3_letter (30 + 3 * a2) a3 (fun (r_28 : Int) (g_28 : jv_Mem) => ((jv_r r_28 ∧ jv_r a4) ∧ (¬ r_28 = a4 → wB_X8_enter_41 a1 a2 a3 Q 0 g_28) ∧ (r_28 = a4 → wB_X8_enter_41 a1 a2 a3 Q 1 g_28))) g_18))) (fun (E : String) (gx : jv_Mem) => Qx E gx) g_11)) g_4)) g)
set_option maxHeartbeats 4000000 in
set_option maxRecDepth 100000 in
theorem M_X8_enter {l : Launch} {s0 : State} {b0 : Addr} {D : va_G} {ids : Nat → ClassId} {g : jv_Mem} {a1 : Int} {a2 : Int} {a3 : Int} {a4 : Int} {Q : Int → jv_Mem → Prop} {Qx : String → jv_Mem → Prop} (hT : jv_T l s0 b0) (h : wp_X8_enter a1 a2 a3 a4 Q Qx g) : jv_MX l s0 b0 D ids yX8_enter cX8_enter 6 (some .boolean) 7 120 1 6 jv_SH g [.ref (s0.heap.size + (0 : Int).toNat), jv_i a1, jv_i a2, jv_i a3, jv_i a4] (jv_qi Q) Qx := by
  refine jv_MX.of (by decide +kernel) rfl rfl (fun p e s m args below meth c C hml hr hlk hxt => ?_)
  replace C : jv_C p s m args c cX8_enter RX8 s0 b0 D ids := C
  show jv_V p l e (jv_rm 7 120 1 6) s m args below meth c 0 0 (jv_ZX below s0 D ids jv_SH (jv_qi Q) Qx args s 1 6) s0 D ids none jv_SH g 0 [some (.ref (s0.heap.size + (0 : Int).toNat)), some (jv_i a1), some (jv_i a2), some (jv_i a3), some (jv_i a4), none] []
  unfold wp_X8_enter at h
  refine jv_aload_n C dX8_enter_0 rfl ?_
  refine jv_iload_n C dX8_enter_1 rfl ?_
  refine jv_iload_n C dX8_enter_2 rfl ?_
  refine jv_iload_n C dX8_enter_3 rfl ?_
  refine jv_callVv C (M_X8_needCellOf h) kw_X8_236 sS_0 rfl rfl ⟨rfl, rfl⟩ (st := []) rfl rfl ⟨rfl, rfl⟩ dX8_enter_4 (fun g_4 h => ?_)
  refine jv_iload C dX8_enter_7 rfl ?_
  refine jv_bipush C dX8_enter_9 (by decide +kernel) ?_
  refine jv_callSv C (M_X8_needIndex h) kw_X8_69 rfl ⟨rfl, rfl⟩ (st := []) rfl rfl ⟨rfl, rfl⟩ dX8_enter_11 (fun g_11 h => ?_)
  refine jv_aload_n C dX8_enter_14 rfl ?_
  refine jv_iload_n C dX8_enter_15 rfl ?_
  refine jv_iload_n C dX8_enter_16 rfl ?_
  refine jv_iload_n C dX8_enter_17 rfl ?_
  refine jv_callVXv C (M_X8_needUnfinished hT h) kw_X8_239 sS_0 rfl rfl ⟨rfl, rfl⟩ (st := []) rfl rfl ⟨rfl, rfl⟩ dX8_enter_18 (fun g_18 h => ?_) (fun E gx h => ?_)
  rotate_left 1
  · exact jv_xout hxt hlk h ⟨rfl, rfl⟩
  refine jv_aload_n C dX8_enter_21 rfl ?_
  refine jv_getr C kf_X8_39 sS_0 rfl dX8_enter_22 ?_
  refine jv_iload_n C dX8_enter_25 rfl ?_
  obtain ⟨hb_26, h⟩ := h
  refine jv_aaldP C hb_26 dX8_enter_26 ?_
  refine jv_iload_n C dX8_enter_27 rfl ?_
  refine jv_callVi C (M_X3_letter (jv_pz hb_26.1 hb_26.2) h) kw_X8_242 (jv_pz hb_26.1 hb_26.2).1 rfl rfl ⟨rfl, rfl⟩ (st := []) rfl rfl ⟨rfl, rfl⟩ dX8_enter_28 (fun r_28 g_28 h => ?_)
  refine jv_iload C dX8_enter_31 rfl ?_
  have hJ41 : ∀ (y0_41 : Int) (gj_41 : jv_Mem), wB_X8_enter_41 a1 a2 a3 Q y0_41 gj_41 → jv_V p l e (jv_rm 7 120 1 6) s m args below meth c 1 6 (jv_ZX below s0 D ids jv_SH (jv_qi Q) Qx args s 1 6) s0 D ids none jv_SH gj_41 41 [some (.ref (s0.heap.size + (0 : Int).toNat)), some (jv_i a1), some (jv_i a2), some (jv_i a3), none, none] [jv_i y0_41] := by
    intro y0_41 gj_41 h
    unfold wB_X8_enter_41 at h
    refine jv_istore (ls' := [some (.ref (s0.heap.size + (0 : Int).toNat)), some (jv_i a1), some (jv_i a2), some (jv_i a3), none, some (jv_i y0_41)]) C dX8_enter_41 (Nat.lt_of_lt_of_eq (Nat.le_of_ble_eq_true rfl) hml) rfl ?_
    refine jv_iload C dX8_enter_43 rfl ?_
    obtain ⟨hr_45, h1_45, h2_45⟩ := h
    refine jv_if_eq (tgt := 55) C hr_45 dX8_enter_45 rfl (fun hc_45 => ?_) (fun hc_45 => ?_)
    · replace h := h1_45 hc_45
      refine jv_iload C dX8_enter_55 rfl ?_
      obtain ⟨hz_57, h⟩ := h
      exact jv_xret (jv_zret C hr hlk (jv_nz hz_57) ⟨_, rfl, h⟩ dX8_enter_57 ⟨rfl, rfl⟩)
    · replace h := h2_45 hc_45
      refine jv_aload_n C dX8_enter_48 rfl ?_
      refine jv_iload_n C dX8_enter_49 rfl ?_
      refine jv_iload_n C dX8_enter_50 rfl ?_
      refine jv_iload_n C dX8_enter_51 rfl ?_
      refine jv_callVv C (M_X8_becomeRight h) kw_X8_245 sS_0 rfl rfl ⟨rfl, rfl⟩ (st := []) rfl rfl ⟨rfl, rfl⟩ dX8_enter_52 (fun g_52 h => ?_)
      refine jv_iload C dX8_enter_55 rfl ?_
      obtain ⟨hz_57, h⟩ := h
      exact jv_xret (jv_zret C hr hlk (jv_nz hz_57) ⟨_, rfl, h⟩ dX8_enter_57 ⟨rfl, rfl⟩)
  obtain ⟨hr_33, h1_33, h2_33⟩ := h
  refine jv_icmp_ne (tgt := 40) C hr_33.1 hr_33.2 dX8_enter_33 rfl (fun hc_33 => ?_) (fun hc_33 => ?_)
  · replace h := h1_33 hc_33
    refine jv_const C dX8_enter_40 ?_
    exact jv_less (ls' := [some (.ref (s0.heap.size + (0 : Int).toNat)), some (jv_i a1), some (jv_i a2), some (jv_i a3), none, none]) ⟨rfl, ⟨rfl, ⟨rfl, ⟨rfl, trivial⟩⟩⟩⟩ (hJ41 _ _ h)
  · replace h := h2_33 hc_33
    refine jv_const C dX8_enter_36 ?_
    refine jv_goto (tgt := 41) C dX8_enter_37 rfl ?_
    exact jv_less (ls' := [some (.ref (s0.heap.size + (0 : Int).toNat)), some (jv_i a1), some (jv_i a2), some (jv_i a3), none, none]) ⟨rfl, ⟨rfl, ⟨rfl, ⟨rfl, trivial⟩⟩⟩⟩ (hJ41 _ _ h)

def wp_X8_help (a1 : Int) (a2 : Int) (a3 : Int) (Q : Int → jv_Mem → Prop) (Qx : String → jv_Mem → Prop) (g : jv_Mem) : Prop :=
  (wp_X8_needCellOf a1 a2 a3 (fun (g_4 : jv_Mem) => (wp_X8_needUnfinished a1 a2 a3 (fun (g_11 : jv_Mem) => (((0 : Int) ≤ a1 ∧ a1 < (6 : Int)) ∧ (wp_X4_canPayHelp (90 + 6 * a1) a2 (fun (r_21 : Int) (g_21 : jv_Mem) => ((jv_r r_21) ∧ (¬ r_21 = 0 → (((0 : Int) ≤ a1 ∧ a1 < (6 : Int)) ∧ (wp_X4_payHelp (90 + 6 * a1) a2 a3 (fun (g_45 : jv_Mem) => (wp_X8_becomeRight a1 a2 a3 (fun (g_52 : jv_Mem) => (((0 : Int) ≤ a2 ∧ a2 < (20 : Int)) ∧ (wp_X3_letter (30 + 3 * a2) a3 (fun (r_62 : Int) (g_62 : jv_Mem) => Q r_62 g_62) g_52))) g_45)) g_21))) ∧ (r_21 = 0 → Qx "java/lang/IllegalStateException" g_21))) g_11))) (fun (E : String) (gx : jv_Mem) => Qx E gx) g_4)) g)
set_option maxHeartbeats 4000000 in
set_option maxRecDepth 100000 in
theorem M_X8_help {l : Launch} {s0 : State} {b0 : Addr} {D : va_G} {ids : Nat → ClassId} {g : jv_Mem} {a1 : Int} {a2 : Int} {a3 : Int} {Q : Int → jv_Mem → Prop} {Qx : String → jv_Mem → Prop} (hT : jv_T l s0 b0) (h : wp_X8_help a1 a2 a3 Q Qx g) : jv_MX l s0 b0 D ids yX8_help cX8_help 4 (some .int) 7 120 2 12 jv_SH g [.ref (s0.heap.size + (0 : Int).toNat), jv_i a1, jv_i a2, jv_i a3] (jv_qi Q) Qx := by
  refine jv_MX.of (by decide +kernel) rfl rfl (fun p e s m args below meth c C hml hr hlk hxt => ?_)
  replace C : jv_C p s m args c cX8_help RX8 s0 b0 D ids := C
  show jv_V p l e (jv_rm 7 120 2 12) s m args below meth c 0 0 (jv_ZX below s0 D ids jv_SH (jv_qi Q) Qx args s 2 12) s0 D ids none jv_SH g 0 [some (.ref (s0.heap.size + (0 : Int).toNat)), some (jv_i a1), some (jv_i a2), some (jv_i a3)] []
  unfold wp_X8_help at h
  refine jv_aload_n C dX8_help_0 rfl ?_
  refine jv_iload_n C dX8_help_1 rfl ?_
  refine jv_iload_n C dX8_help_2 rfl ?_
  refine jv_iload_n C dX8_help_3 rfl ?_
  refine jv_callVv C (M_X8_needCellOf h) kw_X8_236 sS_0 rfl rfl ⟨rfl, rfl⟩ (st := []) rfl rfl ⟨rfl, rfl⟩ dX8_help_4 (fun g_4 h => ?_)
  refine jv_aload_n C dX8_help_7 rfl ?_
  refine jv_iload_n C dX8_help_8 rfl ?_
  refine jv_iload_n C dX8_help_9 rfl ?_
  refine jv_iload_n C dX8_help_10 rfl ?_
  refine jv_callVXv C (M_X8_needUnfinished hT h) kw_X8_239 sS_0 rfl rfl ⟨rfl, rfl⟩ (st := []) rfl rfl ⟨rfl, rfl⟩ dX8_help_11 (fun g_11 h => ?_) (fun E gx h => ?_)
  rotate_left 1
  · exact jv_xout hxt hlk h ⟨rfl, rfl⟩
  refine jv_aload_n C dX8_help_14 rfl ?_
  refine jv_getr C kf_X8_45 sS_0 rfl dX8_help_15 ?_
  refine jv_iload_n C dX8_help_18 rfl ?_
  obtain ⟨hb_19, h⟩ := h
  refine jv_aaldS C hb_19 dX8_help_19 ?_
  refine jv_iload_n C dX8_help_20 rfl ?_
  refine jv_callVi C (M_X4_canPayHelp (jv_sv hb_19.1 hb_19.2) h) kw_X8_248 (jv_sv hb_19.1 hb_19.2).1 rfl rfl ⟨rfl, rfl⟩ (st := []) rfl rfl ⟨rfl, rfl⟩ dX8_help_21 (fun r_21 g_21 h => ?_)
  obtain ⟨hr_24, h1_24, h2_24⟩ := h
  refine jv_if_ne (tgt := 37) C hr_24 dX8_help_24 rfl (fun hc_24 => ?_) (fun hc_24 => ?_)
  · replace h := h1_24 hc_24
    refine jv_aload_n C dX8_help_37 rfl ?_
    refine jv_getr C kf_X8_45 sS_0 rfl dX8_help_38 ?_
    refine jv_iload_n C dX8_help_41 rfl ?_
    obtain ⟨hb_42, h⟩ := h
    refine jv_aaldS C hb_42 dX8_help_42 ?_
    refine jv_iload_n C dX8_help_43 rfl ?_
    refine jv_iload_n C dX8_help_44 rfl ?_
    refine jv_callVv C (M_X4_payHelp (jv_sv hb_42.1 hb_42.2) h) kw_X8_253 (jv_sv hb_42.1 hb_42.2).1 rfl rfl ⟨rfl, rfl⟩ (st := []) rfl rfl ⟨rfl, rfl⟩ dX8_help_45 (fun g_45 h => ?_)
    refine jv_aload_n C dX8_help_48 rfl ?_
    refine jv_iload_n C dX8_help_49 rfl ?_
    refine jv_iload_n C dX8_help_50 rfl ?_
    refine jv_iload_n C dX8_help_51 rfl ?_
    refine jv_callVv C (M_X8_becomeRight h) kw_X8_245 sS_0 rfl rfl ⟨rfl, rfl⟩ (st := []) rfl rfl ⟨rfl, rfl⟩ dX8_help_52 (fun g_52 h => ?_)
    refine jv_aload_n C dX8_help_55 rfl ?_
    refine jv_getr C kf_X8_39 sS_0 rfl dX8_help_56 ?_
    refine jv_iload_n C dX8_help_59 rfl ?_
    obtain ⟨hb_60, h⟩ := h
    refine jv_aaldP C hb_60 dX8_help_60 ?_
    refine jv_iload_n C dX8_help_61 rfl ?_
    refine jv_callVi C (M_X3_letter (jv_pz hb_60.1 hb_60.2) h) kw_X8_242 (jv_pz hb_60.1 hb_60.2).1 rfl rfl ⟨rfl, rfl⟩ (st := []) rfl rfl ⟨rfl, rfl⟩ dX8_help_62 (fun r_62 g_62 h => ?_)
    exact jv_xret (jv_iret C hr hlk ⟨_, rfl, h⟩ dX8_help_65 ⟨rfl, rfl⟩)
  · replace h := h2_24 hc_24
    exact jt_X8_help C hT hlk hxt ⟨rfl, rfl⟩ ⟨rfl, rfl⟩ h ⟨rfl, rfl⟩

def wB_X8_judge_135 (K85 : Int → Int → jv_Mem → Prop) (x5_85 : Int) (x4_135 : Int) (gj_135 : jv_Mem) : Prop :=
  (∀ v5_135 : Int, v5_135 = x5_85 + 1 → K85 x4_135 v5_135 gj_135)
def wp_X8_judge (a1 : Int) (a2 : Int) (Q : Int → jv_Mem → Prop) (Qx : String → jv_Mem → Prop) (g : jv_Mem) : Prop :=
  (wp_X8_needIndex a1 (g 0 9) (fun (g_5 : jv_Mem) => (wp_X8_needIndex a2 6 (fun (g_11 : jv_Mem) => (((0 : Int) ≤ a1 ∧ a1 < (20 : Int)) ∧ (wp_X3_isWrong (30 + 3 * a1) a2 (fun (r_21 : Int) (g_21 : jv_Mem) => ((jv_r r_21) ∧ (r_21 = 0 → (wp_X8_cellsOf a2 (fun (r_39 : Int) (g_39 : jv_Mem) => (((0 : Int) ≤ a1 ∧ a1 < (20 : Int)) ∧ (wp_X3_openCells (30 + 3 * a1) (fun (r_48 : Int) (g_48 : jv_Mem) => (∀ v3_54 : Int, v3_54 = jv_and r_39 (jv_xor r_48 ((-1))) → (((0 : Int) ≤ a1 ∧ a1 < (20 : Int)) ∧ (wp_X3_setWrong (30 + 3 * a1) a2 (fun (g_62 : jv_Mem) => (wp_X1_add ((-1)) a1 a2 (g_62 0 11) (fun (g_76 : jv_Mem) => jv_lp2 (fun (K85 : Int → Int → jv_Mem → Prop) (x4_85 x5_85 : Int) (gl_85 : jv_Mem) => ((jv_r x5_85 ∧ jv_r (gl_85 0 10)) ∧ ((gl_85 0 10) ≤ x5_85 → Q x4_85 gl_85) ∧ (x5_85 < (gl_85 0 10) → (wp_X8_keptStreak x5_85 (fun (r_97 : Int) (g_97 : jv_Mem) => (((0 : Int) ≤ x5_85 ∧ x5_85 < (6 : Int)) ∧ (wp_X4_payBack (90 + 6 * x5_85) a1 v3_54 (fun (g_111 : jv_Mem) => (wp_X8_countIfSolved x5_85 a1 (fun (g_118 : jv_Mem) => (wp_X8_keptStreak x5_85 (fun (r_124 : Int) (g_124 : jv_Mem) => ((jv_r r_124 ∧ jv_r r_97) ∧ (r_124 ≤ r_97 → wB_X8_judge_135 K85 x5_85 x4_85 g_124) ∧ (r_97 < r_124 → (∀ v4_132 : Int, v4_132 = x4_85 + 1 → wB_X8_judge_135 K85 x5_85 v4_132 g_124)))) g_118)) g_111)) g_97))) gl_85)))) 0 0 g_76) g_62)) g_48)))) g_39))) g_21)) ∧ (¬ r_21 = 0 → Qx "java/lang/IllegalStateException" g_21))) g_11))) g_5)) g)
set_option maxHeartbeats 4000000 in
set_option maxRecDepth 100000 in
theorem M_X8_judge {l : Launch} {s0 : State} {b0 : Addr} {D : va_G} {ids : Nat → ClassId} {g : jv_Mem} {a1 : Int} {a2 : Int} {Q : Int → jv_Mem → Prop} {Qx : String → jv_Mem → Prop} (hT : jv_T l s0 b0) (h : wp_X8_judge a1 a2 Q Qx g) : jv_MX l s0 b0 D ids yX8_judge cX8_judge 7 (some .int) 6 97 1 6 jv_SH g [.ref (s0.heap.size + (0 : Int).toNat), jv_i a1, jv_i a2] (jv_qi Q) Qx := by
  refine jv_MX.of (by decide +kernel) rfl rfl (fun p e s m args below meth c C hml hr hlk hxt => ?_)
  replace C : jv_C p s m args c cX8_judge RX8 s0 b0 D ids := C
  show jv_V p l e (jv_rm 6 97 1 6) s m args below meth c 0 0 (jv_ZX below s0 D ids jv_SH (jv_qi Q) Qx args s 1 6) s0 D ids none jv_SH g 0 [some (.ref (s0.heap.size + (0 : Int).toNat)), some (jv_i a1), some (jv_i a2), none, none, none, none] []
  unfold wp_X8_judge at h
  refine jv_iload_n C dX8_judge_0 rfl ?_
  refine jv_aload_n C dX8_judge_1 rfl ?_
  refine jv_geti C kf_X8_204 sS_0 rfl dX8_judge_2 ?_
  refine jv_callSv C (M_X8_needIndex h) kw_X8_69 rfl ⟨rfl, rfl⟩ (st := []) rfl rfl ⟨rfl, rfl⟩ dX8_judge_5 (fun g_5 h => ?_)
  refine jv_iload_n C dX8_judge_8 rfl ?_
  refine jv_bipush C dX8_judge_9 (by decide +kernel) ?_
  refine jv_callSv C (M_X8_needIndex h) kw_X8_69 rfl ⟨rfl, rfl⟩ (st := []) rfl rfl ⟨rfl, rfl⟩ dX8_judge_11 (fun g_11 h => ?_)
  refine jv_aload_n C dX8_judge_14 rfl ?_
  refine jv_getr C kf_X8_39 sS_0 rfl dX8_judge_15 ?_
  refine jv_iload_n C dX8_judge_18 rfl ?_
  obtain ⟨hb_19, h⟩ := h
  refine jv_aaldP C hb_19 dX8_judge_19 ?_
  refine jv_iload_n C dX8_judge_20 rfl ?_
  refine jv_callVi C (M_X3_isWrong (jv_pz hb_19.1 hb_19.2) h) kw_X8_256 (jv_pz hb_19.1 hb_19.2).1 rfl rfl ⟨rfl, rfl⟩ (st := []) rfl rfl ⟨rfl, rfl⟩ dX8_judge_21 (fun r_21 g_21 h => ?_)
  obtain ⟨hr_24, h1_24, h2_24⟩ := h
  refine jv_if_eq (tgt := 38) C hr_24 dX8_judge_24 rfl (fun hc_24 => ?_) (fun hc_24 => ?_)
  · replace h := h1_24 hc_24
    refine jv_iload_n C dX8_judge_38 rfl ?_
    refine jv_callSi C (M_X8_cellsOf h) kw_X8_261 rfl ⟨rfl, rfl⟩ (st := []) rfl rfl ⟨rfl, rfl⟩ dX8_judge_39 (fun r_39 g_39 h => ?_)
    refine jv_aload_n C dX8_judge_42 rfl ?_
    refine jv_getr C kf_X8_39 sS_0 rfl dX8_judge_43 ?_
    refine jv_iload_n C dX8_judge_46 rfl ?_
    obtain ⟨hb_47, h⟩ := h
    refine jv_aaldP C hb_47 dX8_judge_47 ?_
    refine jv_callVi C (M_X3_openCells (jv_pz hb_47.1 hb_47.2) h) kw_X8_264 (jv_pz hb_47.1 hb_47.2).1 rfl rfl ⟨rfl, rfl⟩ (st := [jv_i r_39]) rfl rfl ⟨rfl, rfl⟩ dX8_judge_48 (fun r_48 g_48 h => ?_)
    refine jv_const C dX8_judge_51 ?_
    refine jv_ixor C dX8_judge_52 ?_
    refine jv_iand C dX8_judge_53 ?_
    refine jv_top (fun v3_54 ev3_54 => ?_)
    replace h := h v3_54 ev3_54
    refine jv_istore_n (ls' := [some (.ref (s0.heap.size + (0 : Int).toNat)), some (jv_i a1), some (jv_i a2), some (jv_i v3_54), none, none, none]) C dX8_judge_54 (Nat.lt_of_lt_of_eq (Nat.le_of_ble_eq_true rfl) hml) rfl ?_
    refine jv_aload_n C dX8_judge_55 rfl ?_
    refine jv_getr C kf_X8_39 sS_0 rfl dX8_judge_56 ?_
    refine jv_iload_n C dX8_judge_59 rfl ?_
    obtain ⟨hb_60, h⟩ := h
    refine jv_aaldP C hb_60 dX8_judge_60 ?_
    refine jv_iload_n C dX8_judge_61 rfl ?_
    refine jv_callVv C (M_X3_setWrong (jv_pz hb_60.1 hb_60.2) h) kw_X8_267 (jv_pz hb_60.1 hb_60.2).1 rfl rfl ⟨rfl, rfl⟩ (st := []) rfl rfl ⟨rfl, rfl⟩ dX8_judge_62 (fun g_62 h => ?_)
    refine jv_aload_n C dX8_judge_65 rfl ?_
    refine jv_getr C kf_X8_52 sS_0 rfl dX8_judge_66 ?_
    refine jv_const C dX8_judge_69 ?_
    refine jv_iload_n C dX8_judge_70 rfl ?_
    refine jv_iload_n C dX8_judge_71 rfl ?_
    refine jv_aload_n C dX8_judge_72 rfl ?_
    refine jv_geti C kf_X8_190 sS_0 rfl dX8_judge_73 ?_
    refine jv_callVv C (M_X1_add h) kw_X8_270 sS_21 rfl rfl ⟨rfl, rfl⟩ (st := []) rfl rfl ⟨rfl, rfl⟩ dX8_judge_76 (fun g_76 h => ?_)
    refine jv_const C dX8_judge_79 ?_
    refine jv_istore (ls' := [some (.ref (s0.heap.size + (0 : Int).toNat)), some (jv_i a1), some (jv_i a2), some (jv_i v3_54), some (jv_i 0), none, none]) C dX8_judge_80 (Nat.lt_of_lt_of_eq (Nat.le_of_ble_eq_true rfl) hml) rfl ?_
    refine jv_const C dX8_judge_82 ?_
    refine jv_istore (ls' := [some (.ref (s0.heap.size + (0 : Int).toNat)), some (jv_i a1), some (jv_i a2), some (jv_i v3_54), some (jv_i 0), some (jv_i 0), none]) C dX8_judge_83 (Nat.lt_of_lt_of_eq (Nat.le_of_ble_eq_true rfl) hml) rfl ?_
    refine jv_less (ls' := [some (.ref (s0.heap.size + (0 : Int).toNat)), some (jv_i a1), none, some (jv_i v3_54), some (jv_i 0), some (jv_i 0), none]) ⟨rfl, ⟨rfl, ⟨rfl, ⟨rfl, ⟨rfl, trivial⟩⟩⟩⟩⟩ ?_
    refine jv_lp2.use h (fun (x4_85 x5_85 : Int) (gl_85 : jv_Mem) => jv_V p l e (jv_rm 6 97 1 6) s m args below meth c 0 0 (jv_ZX below s0 D ids jv_SH (jv_qi Q) Qx args s 1 6) s0 D ids none jv_SH gl_85 85 [some (.ref (s0.heap.size + (0 : Int).toNat)), some (jv_i a1), none, some (jv_i v3_54), some (jv_i x4_85), some (jv_i x5_85), none] []) ?_
    intro K85 hK85 x4_85 x5_85 gl_85 h
    refine jv_iload C dX8_judge_85 rfl ?_
    refine jv_aload_n C dX8_judge_87 rfl ?_
    refine jv_geti C kf_X8_228 sS_0 rfl dX8_judge_88 ?_
    obtain ⟨hr_91, h1_91, h2_91⟩ := h
    refine jv_icmp_ge (tgt := 141) C hr_91.1 hr_91.2 dX8_judge_91 rfl (fun hc_91 => ?_) (fun hc_91 => ?_)
    · replace h := h1_91 hc_91
      refine jv_iload C dX8_judge_141 rfl ?_
      exact jv_xret (jv_iret C hr hlk ⟨_, rfl, h⟩ dX8_judge_143 ⟨rfl, rfl⟩)
    · replace h := h2_91 hc_91
      refine jv_aload_n C dX8_judge_94 rfl ?_
      refine jv_iload C dX8_judge_95 rfl ?_
      refine jv_callVi C (M_X8_keptStreak h) kw_X8_273 sS_0 rfl rfl ⟨rfl, rfl⟩ (st := []) rfl rfl ⟨rfl, rfl⟩ dX8_judge_97 (fun r_97 g_97 h => ?_)
      refine jv_istore (ls' := [some (.ref (s0.heap.size + (0 : Int).toNat)), some (jv_i a1), none, some (jv_i v3_54), some (jv_i x4_85), some (jv_i x5_85), some (jv_i r_97)]) C dX8_judge_100 (Nat.lt_of_lt_of_eq (Nat.le_of_ble_eq_true rfl) hml) rfl ?_
      refine jv_aload_n C dX8_judge_102 rfl ?_
      refine jv_getr C kf_X8_45 sS_0 rfl dX8_judge_103 ?_
      refine jv_iload C dX8_judge_106 rfl ?_
      obtain ⟨hb_108, h⟩ := h
      refine jv_aaldS C hb_108 dX8_judge_108 ?_
      refine jv_iload_n C dX8_judge_109 rfl ?_
      refine jv_iload_n C dX8_judge_110 rfl ?_
      refine jv_callVv C (M_X4_payBack (jv_sv hb_108.1 hb_108.2) h) kw_X8_276 (jv_sv hb_108.1 hb_108.2).1 rfl rfl ⟨rfl, rfl⟩ (st := []) rfl rfl ⟨rfl, rfl⟩ dX8_judge_111 (fun g_111 h => ?_)
      refine jv_aload_n C dX8_judge_114 rfl ?_
      refine jv_iload C dX8_judge_115 rfl ?_
      refine jv_iload_n C dX8_judge_117 rfl ?_
      refine jv_callVv C (M_X8_countIfSolved h) kw_X8_279 sS_0 rfl rfl ⟨rfl, rfl⟩ (st := []) rfl rfl ⟨rfl, rfl⟩ dX8_judge_118 (fun g_118 h => ?_)
      refine jv_aload_n C dX8_judge_121 rfl ?_
      refine jv_iload C dX8_judge_122 rfl ?_
      refine jv_callVi C (M_X8_keptStreak h) kw_X8_273 sS_0 rfl rfl ⟨rfl, rfl⟩ (st := []) rfl rfl ⟨rfl, rfl⟩ dX8_judge_124 (fun r_124 g_124 h => ?_)
      refine jv_iload C dX8_judge_127 rfl ?_
      have hJ135 : ∀ (x4_135 : Int) (gj_135 : jv_Mem), wB_X8_judge_135 K85 x5_85 x4_135 gj_135 → jv_V p l e (jv_rm 6 97 1 6) s m args below meth c 0 0 (jv_ZX below s0 D ids jv_SH (jv_qi Q) Qx args s 1 6) s0 D ids none jv_SH gj_135 135 [some (.ref (s0.heap.size + (0 : Int).toNat)), some (jv_i a1), none, some (jv_i v3_54), some (jv_i x4_135), some (jv_i x5_85), none] [] := by
        intro x4_135 gj_135 h
        unfold wB_X8_judge_135 at h
        refine jv_iincn C dX8_judge_135 (Nat.lt_of_lt_of_eq (Nat.le_of_ble_eq_true rfl) hml) rfl (fun v5_135 ev5_135 => ?_)
        replace h := h v5_135 ev5_135
        refine jv_lset (ls' := [some (.ref (s0.heap.size + (0 : Int).toNat)), some (jv_i a1), none, some (jv_i v3_54), some (jv_i x4_135), some (jv_i v5_135), none]) rfl ?_
        refine jv_goto (tgt := 85) C dX8_judge_138 rfl ?_
        exact jv_less (ls' := [some (.ref (s0.heap.size + (0 : Int).toNat)), some (jv_i a1), none, some (jv_i v3_54), some (jv_i x4_135), some (jv_i v5_135), none]) ⟨rfl, ⟨rfl, ⟨rfl, ⟨rfl, ⟨rfl, trivial⟩⟩⟩⟩⟩ (hK85 _ _ _ h)
      obtain ⟨hr_129, h1_129, h2_129⟩ := h
      refine jv_icmp_le (tgt := 135) C hr_129.1 hr_129.2 dX8_judge_129 rfl (fun hc_129 => ?_) (fun hc_129 => ?_)
      · replace h := h1_129 hc_129
        exact jv_less (ls' := [some (.ref (s0.heap.size + (0 : Int).toNat)), some (jv_i a1), none, some (jv_i v3_54), some (jv_i x4_85), some (jv_i x5_85), none]) ⟨rfl, ⟨rfl, ⟨rfl, ⟨rfl, ⟨rfl, trivial⟩⟩⟩⟩⟩ (hJ135 _ _ h)
      · replace h := h2_129 hc_129
        refine jv_iincn C dX8_judge_132 (Nat.lt_of_lt_of_eq (Nat.le_of_ble_eq_true rfl) hml) rfl (fun v4_132 ev4_132 => ?_)
        replace h := h v4_132 ev4_132
        refine jv_lset (ls' := [some (.ref (s0.heap.size + (0 : Int).toNat)), some (jv_i a1), none, some (jv_i v3_54), some (jv_i v4_132), some (jv_i x5_85), some (jv_i r_97)]) rfl ?_
        exact jv_less (ls' := [some (.ref (s0.heap.size + (0 : Int).toNat)), some (jv_i a1), none, some (jv_i v3_54), some (jv_i v4_132), some (jv_i x5_85), none]) ⟨rfl, ⟨rfl, ⟨rfl, ⟨rfl, ⟨rfl, trivial⟩⟩⟩⟩⟩ (hJ135 _ _ h)
  · replace h := h2_24 hc_24
    exact jt_X8_judge C hT hlk hxt ⟨rfl, rfl⟩ ⟨rfl, rfl⟩ h ⟨rfl, rfl⟩

