def wp_L_low (a0 : Int) (a1 : Int) (Q : Int → jv_Mem → Prop) (g : jv_Mem) : Prop :=
  ((¬ Int32.ofInt a1 = 0) ∧ Q (jv_rem (jv_and a0 2147483647) a1) g)
set_option maxHeartbeats 4000000 in
set_option maxRecDepth 100000 in
theorem M_L_low {l : Launch} {s0 : State} {b0 : Addr} {D : va_G} {ids : Nat → ClassId} {ex : Option Nat} {g : jv_Mem} {a0 : Int} {a1 : Int} {Q : Int → jv_Mem → Prop} (h : wp_L_low a0 a1 Q g) : jv_M l s0 b0 D ids yL_low cL_low 2 (some .int) 0 0 0 0 ex jv_SH g [jv_i a0, jv_i a1] ex jv_SH (jv_qi Q) := by
  refine jv_M.of (by decide +kernel) rfl rfl (fun p e s m args below meth c C hml hr hlk hnm => ?_)
  replace C : jv_C p s m args c cL_low RL s0 b0 D ids := C
  show jv_V p l e (jv_rm 0 0 0 0) s m args below meth c 0 0 (jv_ZM below s0 D ids ex jv_SH (jv_qi Q) args s 0 0) s0 D ids ex jv_SH g 0 [some (jv_i a0), some (jv_i a1)] []
  unfold wp_L_low at h
  refine jv_iload_n C dL_low_0 rfl ?_
  refine jv_ldc (n := 2147483647) C dL_low_1 kc_L_7 ?_
  refine jv_iand C dL_low_3 ?_
  refine jv_iload_n C dL_low_4 rfl ?_
  obtain ⟨hz_5, h⟩ := h
  refine jv_irem C hz_5 dL_low_5 ?_
  exact jv_iret C hr hlk ⟨_, rfl, h⟩ dL_low_6 ⟨rfl, rfl⟩

def wp_L_letter (a0 : Int) (Q : Int → jv_Mem → Prop) (g : jv_Mem) : Prop :=
  (wp_L_low a0 3 (fun (r_2 : Int) (g_2 : jv_Mem) => ((jv_r r_2) ∧ (¬ r_2 = 2 → (wp_L_low a0 3 (fun (r_16 : Int) (g_16 : jv_Mem) => Q r_16 g_16) g_2)) ∧ (r_2 = 2 → Q 8 g_2))) g)
set_option maxHeartbeats 4000000 in
set_option maxRecDepth 100000 in
theorem M_L_letter {l : Launch} {s0 : State} {b0 : Addr} {D : va_G} {ids : Nat → ClassId} {ex : Option Nat} {g : jv_Mem} {a0 : Int} {Q : Int → jv_Mem → Prop} (h : wp_L_letter a0 Q g) : jv_M l s0 b0 D ids yL_letter cL_letter 1 (some .int) 1 21 0 0 ex jv_SH g [jv_i a0] ex jv_SH (jv_qi Q) := by
  refine jv_M.of (by decide +kernel) rfl rfl (fun p e s m args below meth c C hml hr hlk hnm => ?_)
  replace C : jv_C p s m args c cL_letter RL s0 b0 D ids := C
  show jv_V p l e (jv_rm 1 21 0 0) s m args below meth c 0 0 (jv_ZM below s0 D ids ex jv_SH (jv_qi Q) args s 0 0) s0 D ids ex jv_SH g 0 [some (jv_i a0)] []
  unfold wp_L_letter at h
  refine jv_iload_n C dL_letter_0 rfl ?_
  refine jv_const C dL_letter_1 ?_
  refine jv_callSi C (M_L_low h) kw_L_52 rfl ⟨rfl, rfl⟩ (st := []) rfl rfl ⟨rfl, rfl⟩ dL_letter_2 (fun r_2 g_2 h => ?_)
  refine jv_const C dL_letter_5 ?_
  obtain ⟨hr_6, h1_6, h2_6⟩ := h
  refine jv_icmp_ne (tgt := 14) C hr_6 ⟨by decide, by decide⟩ dL_letter_6 rfl (fun hc_6 => ?_) (fun hc_6 => ?_)
  · replace h := h1_6 hc_6
    refine jv_iload_n C dL_letter_14 rfl ?_
    refine jv_const C dL_letter_15 ?_
    refine jv_callSi C (M_L_low h) kw_L_52 rfl ⟨rfl, rfl⟩ (st := []) rfl rfl ⟨rfl, rfl⟩ dL_letter_16 (fun r_16 g_16 h => ?_)
    exact jv_iret C hr hlk ⟨_, rfl, h⟩ dL_letter_19 ⟨rfl, rfl⟩
  · replace h := h2_6 hc_6
    refine jv_bipush C dL_letter_9 (by decide +kernel) ?_
    refine jv_goto (tgt := 19) C dL_letter_11 rfl ?_
    exact jv_iret C hr hlk ⟨_, rfl, h⟩ dL_letter_19 ⟨rfl, rfl⟩

def wp_L_spells (a1 : Int) (a2 : Int) (a3 : Int) (a4 : Int) (Q : jv_Mem → Prop) (g : jv_Mem) : Prop :=
  (wp_X8_clearSpelled (fun (r_1 : Int) (g_1 : jv_Mem) => (∃ gG_1 : jv_Mem, jv_sm g_1 gG_1 ∧ ((jv_r a4) ∧ (¬ a4 = 0 → ((jv_r a4) ∧ (¬ a4 = 1 → (wp_X8_spell a3 (fun (r_60 : Int) (g_60 : jv_Mem) => (∃ gG_60 : jv_Mem, jv_sm g_60 gG_60 ∧ (wp_X8_spell a2 (fun (r_66 : Int) (g_66 : jv_Mem) => (∃ gG_66 : jv_Mem, jv_sm g_66 gG_66 ∧ (wp_X8_spell a1 (fun (r_72 : Int) (g_72 : jv_Mem) => (∃ gG_72 : jv_Mem, jv_sm g_72 gG_72 ∧ (wp_X8_turn (fun (r_77 : Int) (g_77 : jv_Mem) => (∃ gG_77 : jv_Mem, jv_sm g_77 gG_77 ∧ Q gG_77)) gG_72))) gG_66))) gG_60))) gG_1)) ∧ (a4 = 1 → (wp_X8_insert a3 (fun (r_39 : Int) (g_39 : jv_Mem) => (∃ gG_39 : jv_Mem, jv_sm g_39 gG_39 ∧ (wp_X8_insert a2 (fun (r_45 : Int) (g_45 : jv_Mem) => (∃ gG_45 : jv_Mem, jv_sm g_45 gG_45 ∧ (wp_X8_insert a1 (fun (r_51 : Int) (g_51 : jv_Mem) => (∃ gG_51 : jv_Mem, jv_sm g_51 gG_51 ∧ Q gG_51)) gG_45))) gG_39))) gG_1)))) ∧ (a4 = 0 → (wp_X8_spell a1 (fun (r_12 : Int) (g_12 : jv_Mem) => (∃ gG_12 : jv_Mem, jv_sm g_12 gG_12 ∧ (wp_X8_spell a2 (fun (r_18 : Int) (g_18 : jv_Mem) => (∃ gG_18 : jv_Mem, jv_sm g_18 gG_18 ∧ (wp_X8_spell a3 (fun (r_24 : Int) (g_24 : jv_Mem) => (∃ gG_24 : jv_Mem, jv_sm g_24 gG_24 ∧ Q gG_24)) gG_18))) gG_12))) gG_1))))) g)
set_option maxHeartbeats 4000000 in
set_option maxRecDepth 100000 in
theorem M_L_spells {l : Launch} {s0 : State} {b0 : Addr} {D : va_G} {ids : Nat → ClassId} {ex : Option Nat} {g : jv_Mem} {a1 : Int} {a2 : Int} {a3 : Int} {a4 : Int} {Q : jv_Mem → Prop} (h : wp_L_spells a1 a2 a3 a4 Q g) : jv_M l s0 b0 D ids yL_spells cL_spells 5 none 3 63 0 0 ex jv_SH g [.ref (s0.heap.size + (0 : Int).toNat), jv_i a1, jv_i a2, jv_i a3, jv_i a4] ex jv_SH (jv_qv Q) := by
  refine jv_M.of (by decide +kernel) rfl rfl (fun p e s m args below meth c C hml hr hlk hnm => ?_)
  replace C : jv_C p s m args c cL_spells RL s0 b0 D ids := C
  show jv_V p l e (jv_rm 3 63 0 0) s m args below meth c 0 0 (jv_ZM below s0 D ids ex jv_SH (jv_qv Q) args s 0 0) s0 D ids ex jv_SH g 0 [some (.ref (s0.heap.size + (0 : Int).toNat)), some (jv_i a1), some (jv_i a2), some (jv_i a3), some (jv_i a4)] []
  unfold wp_L_spells at h
  refine jv_aload_n C dL_spells_0 rfl ?_
  refine jv_callVi C (M_X8_clearSpelled h) kw_L_40 sS_0 rfl rfl ⟨rfl, rfl⟩ (st := []) rfl rfl ⟨rfl, rfl⟩ dL_spells_1 (fun r_1 g_1 h => ?_)
  obtain ⟨gG_1, hG_1, h⟩ := h
  refine jv_gh hG_1 ?_
  refine jv_pop C rfl dL_spells_4 ?_
  refine jv_iload C dL_spells_5 rfl ?_
  obtain ⟨hr_7, h1_7, h2_7⟩ := h
  refine jv_if_ne (tgt := 31) C hr_7 dL_spells_7 rfl (fun hc_7 => ?_) (fun hc_7 => ?_)
  · replace h := h1_7 hc_7
    refine jv_iload C dL_spells_31 rfl ?_
    refine jv_const C dL_spells_33 ?_
    obtain ⟨hr_34, h1_34, h2_34⟩ := h
    refine jv_icmp_ne (tgt := 58) C hr_34 ⟨by decide, by decide⟩ dL_spells_34 rfl (fun hc_34 => ?_) (fun hc_34 => ?_)
    · replace h := h1_34 hc_34
      refine jv_aload_n C dL_spells_58 rfl ?_
      refine jv_iload_n C dL_spells_59 rfl ?_
      refine jv_callVi C (M_X8_spell h) kw_L_43 sS_0 rfl rfl ⟨rfl, rfl⟩ (st := []) rfl rfl ⟨rfl, rfl⟩ dL_spells_60 (fun r_60 g_60 h => ?_)
      obtain ⟨gG_60, hG_60, h⟩ := h
      refine jv_gh hG_60 ?_
      refine jv_pop C rfl dL_spells_63 ?_
      refine jv_aload_n C dL_spells_64 rfl ?_
      refine jv_iload_n C dL_spells_65 rfl ?_
      refine jv_callVi C (M_X8_spell h) kw_L_43 sS_0 rfl rfl ⟨rfl, rfl⟩ (st := []) rfl rfl ⟨rfl, rfl⟩ dL_spells_66 (fun r_66 g_66 h => ?_)
      obtain ⟨gG_66, hG_66, h⟩ := h
      refine jv_gh hG_66 ?_
      refine jv_pop C rfl dL_spells_69 ?_
      refine jv_aload_n C dL_spells_70 rfl ?_
      refine jv_iload_n C dL_spells_71 rfl ?_
      refine jv_callVi C (M_X8_spell h) kw_L_43 sS_0 rfl rfl ⟨rfl, rfl⟩ (st := []) rfl rfl ⟨rfl, rfl⟩ dL_spells_72 (fun r_72 g_72 h => ?_)
      obtain ⟨gG_72, hG_72, h⟩ := h
      refine jv_gh hG_72 ?_
      refine jv_pop C rfl dL_spells_75 ?_
      refine jv_aload_n C dL_spells_76 rfl ?_
      refine jv_callVi C (M_X8_turn h) kw_L_49 sS_0 rfl rfl ⟨rfl, rfl⟩ (st := []) rfl rfl ⟨rfl, rfl⟩ dL_spells_77 (fun r_77 g_77 h => ?_)
      obtain ⟨gG_77, hG_77, h⟩ := h
      refine jv_gh hG_77 ?_
      refine jv_pop C rfl dL_spells_80 ?_
      exact jv_vret C hr hlk ⟨rfl, h⟩ dL_spells_81 ⟨rfl, rfl⟩
    · replace h := h2_34 hc_34
      refine jv_aload_n C dL_spells_37 rfl ?_
      refine jv_iload_n C dL_spells_38 rfl ?_
      refine jv_callVi C (M_X8_insert h) kw_L_46 sS_0 rfl rfl ⟨rfl, rfl⟩ (st := []) rfl rfl ⟨rfl, rfl⟩ dL_spells_39 (fun r_39 g_39 h => ?_)
      obtain ⟨gG_39, hG_39, h⟩ := h
      refine jv_gh hG_39 ?_
      refine jv_pop C rfl dL_spells_42 ?_
      refine jv_aload_n C dL_spells_43 rfl ?_
      refine jv_iload_n C dL_spells_44 rfl ?_
      refine jv_callVi C (M_X8_insert h) kw_L_46 sS_0 rfl rfl ⟨rfl, rfl⟩ (st := []) rfl rfl ⟨rfl, rfl⟩ dL_spells_45 (fun r_45 g_45 h => ?_)
      obtain ⟨gG_45, hG_45, h⟩ := h
      refine jv_gh hG_45 ?_
      refine jv_pop C rfl dL_spells_48 ?_
      refine jv_aload_n C dL_spells_49 rfl ?_
      refine jv_iload_n C dL_spells_50 rfl ?_
      refine jv_callVi C (M_X8_insert h) kw_L_46 sS_0 rfl rfl ⟨rfl, rfl⟩ (st := []) rfl rfl ⟨rfl, rfl⟩ dL_spells_51 (fun r_51 g_51 h => ?_)
      obtain ⟨gG_51, hG_51, h⟩ := h
      refine jv_gh hG_51 ?_
      refine jv_pop C rfl dL_spells_54 ?_
      refine jv_goto (tgt := 81) C dL_spells_55 rfl ?_
      exact jv_vret C hr hlk ⟨rfl, h⟩ dL_spells_81 ⟨rfl, rfl⟩
  · replace h := h2_7 hc_7
    refine jv_aload_n C dL_spells_10 rfl ?_
    refine jv_iload_n C dL_spells_11 rfl ?_
    refine jv_callVi C (M_X8_spell h) kw_L_43 sS_0 rfl rfl ⟨rfl, rfl⟩ (st := []) rfl rfl ⟨rfl, rfl⟩ dL_spells_12 (fun r_12 g_12 h => ?_)
    obtain ⟨gG_12, hG_12, h⟩ := h
    refine jv_gh hG_12 ?_
    refine jv_pop C rfl dL_spells_15 ?_
    refine jv_aload_n C dL_spells_16 rfl ?_
    refine jv_iload_n C dL_spells_17 rfl ?_
    refine jv_callVi C (M_X8_spell h) kw_L_43 sS_0 rfl rfl ⟨rfl, rfl⟩ (st := []) rfl rfl ⟨rfl, rfl⟩ dL_spells_18 (fun r_18 g_18 h => ?_)
    obtain ⟨gG_18, hG_18, h⟩ := h
    refine jv_gh hG_18 ?_
    refine jv_pop C rfl dL_spells_21 ?_
    refine jv_aload_n C dL_spells_22 rfl ?_
    refine jv_iload_n C dL_spells_23 rfl ?_
    refine jv_callVi C (M_X8_spell h) kw_L_43 sS_0 rfl rfl ⟨rfl, rfl⟩ (st := []) rfl rfl ⟨rfl, rfl⟩ dL_spells_24 (fun r_24 g_24 h => ?_)
    obtain ⟨gG_24, hG_24, h⟩ := h
    refine jv_gh hG_24 ?_
    refine jv_pop C rfl dL_spells_27 ?_
    refine jv_goto (tgt := 81) C dL_spells_28 rfl ?_
    exact jv_vret C hr hlk ⟨rfl, h⟩ dL_spells_81 ⟨rfl, rfl⟩

def wB_L_solvers_124 (K26 : Int → Int → jv_Mem → Prop) (x3_26 : Int) (y0_124 : Int) (gj_124 : jv_Mem) : Prop :=
  (∀ v3_125 : Int, v3_125 = x3_26 + 1 → K26 y0_124 v3_125 gj_124)
def wB_L_solvers_123 (K26 : Int → Int → jv_Mem → Prop) (x3_26 : Int) (gj_123 : jv_Mem) : Prop :=
  wB_L_solvers_124 K26 x3_26 0 gj_123
def wB_L_solvers_119 (K26 : Int → Int → jv_Mem → Prop) (x3_26 : Int) (gj_119 : jv_Mem) : Prop :=
  wB_L_solvers_124 K26 x3_26 1 gj_119
def wB_L_solvers_61 (a1 : Int) (K26 : Int → Int → jv_Mem → Prop) (r_37 : Int) (x3_26 : Int) (y0_61 : Int) (gj_61 : jv_Mem) : Prop :=
  ((jv_r r_37) ∧ (r_37 < 0 → wB_L_solvers_123 K26 x3_26 gj_61) ∧ (0 ≤ r_37 → ((jv_r r_37 ∧ jv_r a1) ∧ (a1 ≤ r_37 → wB_L_solvers_123 K26 x3_26 gj_61) ∧ (r_37 < a1 → (wp_X8_streak r_37 (fun (r_77 : Int) (g_77 : jv_Mem) => (wp_X8_streak y0_61 (fun (r_83 : Int) (g_83 : jv_Mem) => ((jv_r r_77 ∧ jv_r r_83) ∧ (r_77 < r_83 → wB_L_solvers_123 K26 x3_26 g_83) ∧ (r_83 ≤ r_77 → (wp_X8_streak r_37 (fun (r_92 : Int) (g_92 : jv_Mem) => (wp_X8_streak y0_61 (fun (r_98 : Int) (g_98 : jv_Mem) => ((jv_r r_92 ∧ jv_r r_98) ∧ (r_98 < r_92 → wB_L_solvers_119 K26 x3_26 g_98) ∧ (r_92 ≤ r_98 → (wp_X8_coins r_37 (fun (r_107 : Int) (g_107 : jv_Mem) => (wp_X8_coins y0_61 (fun (r_113 : Int) (g_113 : jv_Mem) => ((jv_r r_107 ∧ jv_r r_113) ∧ (r_107 < r_113 → wB_L_solvers_123 K26 x3_26 g_113) ∧ (r_113 ≤ r_107 → wB_L_solvers_119 K26 x3_26 g_113))) g_107)) g_98)))) g_92)) g_83)))) g_77)) gj_61)))))
def wB_L_solvers_23 (a1 : Int) (Q : Int → jv_Mem → Prop) (y0_23 : Int) (gj_23 : jv_Mem) : Prop :=
  jv_lp2 (fun (K26 : Int → Int → jv_Mem → Prop) (x2_26 x3_26 : Int) (gl_26 : jv_Mem) => ((jv_r x3_26 ∧ jv_r a1) ∧ (a1 ≤ x3_26 → ((x2_26 = 0 ∨ x2_26 = 1) ∧ Q x2_26 gl_26)) ∧ (x3_26 < a1 → ((jv_r x2_26) ∧ (x2_26 = 0 → ((x2_26 = 0 ∨ x2_26 = 1) ∧ Q x2_26 gl_26)) ∧ (¬ x2_26 = 0 → (wp_X8_solverAt x3_26 (fun (r_37 : Int) (g_37 : jv_Mem) => ((jv_r (x3_26 + 1) ∧ jv_r a1) ∧ (a1 ≤ (x3_26 + 1) → wB_L_solvers_61 a1 K26 r_37 x3_26 r_37 g_37) ∧ ((x3_26 + 1) < a1 → (wp_X8_solverAt (x3_26 + 1) (fun (r_53 : Int) (g_53 : jv_Mem) => wB_L_solvers_61 a1 K26 r_37 x3_26 r_53 g_53) g_37)))) gl_26)))))) y0_23 0 gj_23
def wB_L_solvers_22 (a1 : Int) (Q : Int → jv_Mem → Prop) (gj_22 : jv_Mem) : Prop :=
  wB_L_solvers_23 a1 Q 0 gj_22
def wp_L_solvers (a1 : Int) (Q : Int → jv_Mem → Prop) (g : jv_Mem) : Prop :=
  (wp_X8_solverAt a1 (fun (r_2 : Int) (g_2 : jv_Mem) => ((jv_r r_2) ∧ (¬ r_2 = ((-1)) → wB_L_solvers_22 a1 Q g_2) ∧ (r_2 = ((-1)) → (wp_X8_solverAt ((-1)) (fun (r_11 : Int) (g_11 : jv_Mem) => ((jv_r r_11) ∧ (¬ r_11 = ((-1)) → wB_L_solvers_22 a1 Q g_11) ∧ (r_11 = ((-1)) → wB_L_solvers_23 a1 Q 1 g_11))) g_2)))) g)
set_option maxHeartbeats 4000000 in
set_option maxRecDepth 100000 in
theorem M_L_solvers {l : Launch} {s0 : State} {b0 : Addr} {D : va_G} {ids : Nat → ClassId} {ex : Option Nat} {g : jv_Mem} {a1 : Int} {Q : Int → jv_Mem → Prop} (h : wp_L_solvers a1 Q g) : jv_M l s0 b0 D ids yL_solvers cL_solvers 6 (some .boolean) 7 159 0 0 ex jv_SH g [.ref (s0.heap.size + (0 : Int).toNat), jv_i a1] ex jv_SH (jv_qi Q) := by
  refine jv_M.of (by decide +kernel) rfl rfl (fun p e s m args below meth c C hml hr hlk hnm => ?_)
  replace C : jv_C p s m args c cL_solvers RL s0 b0 D ids := C
  show jv_V p l e (jv_rm 7 159 0 0) s m args below meth c 0 0 (jv_ZM below s0 D ids ex jv_SH (jv_qi Q) args s 0 0) s0 D ids ex jv_SH g 0 [some (.ref (s0.heap.size + (0 : Int).toNat)), some (jv_i a1), none, none, none, none] []
  unfold wp_L_solvers at h
  refine jv_aload_n C dL_solvers_0 rfl ?_
  refine jv_iload_n C dL_solvers_1 rfl ?_
  refine jv_callVi C (M_X8_solverAt h) kw_L_57 sS_0 rfl rfl ⟨rfl, rfl⟩ (st := []) rfl rfl ⟨rfl, rfl⟩ dL_solvers_2 (fun r_2 g_2 h => ?_)
  refine jv_const C dL_solvers_5 ?_
  have hJ23 : ∀ (y0_23 : Int) (gj_23 : jv_Mem), wB_L_solvers_23 a1 Q y0_23 gj_23 → jv_V p l e (jv_rm 7 159 0 0) s m args below meth c 0 0 (jv_ZM below s0 D ids ex jv_SH (jv_qi Q) args s 0 0) s0 D ids ex jv_SH gj_23 23 [some (.ref (s0.heap.size + (0 : Int).toNat)), some (jv_i a1), none, none, none, none] [jv_i y0_23] := by
    intro y0_23 gj_23 h
    unfold wB_L_solvers_23 at h
    refine jv_istore_n (ls' := [some (.ref (s0.heap.size + (0 : Int).toNat)), some (jv_i a1), some (jv_i y0_23), none, none, none]) C dL_solvers_23 (Nat.lt_of_lt_of_eq (Nat.le_of_ble_eq_true rfl) hml) rfl ?_
    refine jv_const C dL_solvers_24 ?_
    refine jv_istore_n (ls' := [some (.ref (s0.heap.size + (0 : Int).toNat)), some (jv_i a1), some (jv_i y0_23), some (jv_i 0), none, none]) C dL_solvers_25 (Nat.lt_of_lt_of_eq (Nat.le_of_ble_eq_true rfl) hml) rfl ?_
    refine jv_less (ls' := [some (.ref (s0.heap.size + (0 : Int).toNat)), some (jv_i a1), some (jv_i y0_23), some (jv_i 0), none, none]) ⟨rfl, ⟨rfl, ⟨rfl, ⟨rfl, trivial⟩⟩⟩⟩ ?_
    refine jv_lp2.use h (fun (x2_26 x3_26 : Int) (gl_26 : jv_Mem) => jv_V p l e (jv_rm 7 159 0 0) s m args below meth c 0 0 (jv_ZM below s0 D ids ex jv_SH (jv_qi Q) args s 0 0) s0 D ids ex jv_SH gl_26 26 [some (.ref (s0.heap.size + (0 : Int).toNat)), some (jv_i a1), some (jv_i x2_26), some (jv_i x3_26), none, none] []) ?_
    intro K26 hK26 x2_26 x3_26 gl_26 h
    refine jv_iload_n C dL_solvers_26 rfl ?_
    refine jv_iload_n C dL_solvers_27 rfl ?_
    obtain ⟨hr_28, h1_28, h2_28⟩ := h
    refine jv_icmp_ge (tgt := 131) C hr_28.1 hr_28.2 dL_solvers_28 rfl (fun hc_28 => ?_) (fun hc_28 => ?_)
    · replace h := h1_28 hc_28
      refine jv_iload_n C dL_solvers_131 rfl ?_
      obtain ⟨hz_132, h⟩ := h
      exact jv_zret C hr hlk (jv_nz hz_132) ⟨_, rfl, h⟩ dL_solvers_132 ⟨rfl, rfl⟩
    · replace h := h2_28 hc_28
      refine jv_iload_n C dL_solvers_31 rfl ?_
      obtain ⟨hr_32, h1_32, h2_32⟩ := h
      refine jv_if_eq (tgt := 131) C hr_32 dL_solvers_32 rfl (fun hc_32 => ?_) (fun hc_32 => ?_)
      · replace h := h1_32 hc_32
        refine jv_iload_n C dL_solvers_131 rfl ?_
        obtain ⟨hz_132, h⟩ := h
        exact jv_zret C hr hlk (jv_nz hz_132) ⟨_, rfl, h⟩ dL_solvers_132 ⟨rfl, rfl⟩
      · replace h := h2_32 hc_32
        refine jv_aload_n C dL_solvers_35 rfl ?_
        refine jv_iload_n C dL_solvers_36 rfl ?_
        refine jv_callVi C (M_X8_solverAt h) kw_L_57 sS_0 rfl rfl ⟨rfl, rfl⟩ (st := []) rfl rfl ⟨rfl, rfl⟩ dL_solvers_37 (fun r_37 g_37 h => ?_)
        refine jv_istore (ls' := [some (.ref (s0.heap.size + (0 : Int).toNat)), some (jv_i a1), some (jv_i x2_26), some (jv_i x3_26), some (jv_i r_37), none]) C dL_solvers_40 (Nat.lt_of_lt_of_eq (Nat.le_of_ble_eq_true rfl) hml) rfl ?_
        refine jv_iload_n C dL_solvers_42 rfl ?_
        refine jv_const C dL_solvers_43 ?_
        refine jv_iadd C dL_solvers_44 ?_
        refine jv_iload_n C dL_solvers_45 rfl ?_
        have hJ61 : ∀ (y0_61 : Int) (gj_61 : jv_Mem), wB_L_solvers_61 a1 K26 r_37 x3_26 y0_61 gj_61 → jv_V p l e (jv_rm 7 159 0 0) s m args below meth c 0 0 (jv_ZM below s0 D ids ex jv_SH (jv_qi Q) args s 0 0) s0 D ids ex jv_SH gj_61 61 [some (.ref (s0.heap.size + (0 : Int).toNat)), some (jv_i a1), none, some (jv_i x3_26), some (jv_i r_37), none] [jv_i y0_61] := by
          intro y0_61 gj_61 h
          unfold wB_L_solvers_61 at h
          refine jv_istore (ls' := [some (.ref (s0.heap.size + (0 : Int).toNat)), some (jv_i a1), none, some (jv_i x3_26), some (jv_i r_37), some (jv_i y0_61)]) C dL_solvers_61 (Nat.lt_of_lt_of_eq (Nat.le_of_ble_eq_true rfl) hml) rfl ?_
          refine jv_iload C dL_solvers_63 rfl ?_
          have hJ124 : ∀ (y0_124 : Int) (gj_124 : jv_Mem), wB_L_solvers_124 K26 x3_26 y0_124 gj_124 → jv_V p l e (jv_rm 7 159 0 0) s m args below meth c 0 0 (jv_ZM below s0 D ids ex jv_SH (jv_qi Q) args s 0 0) s0 D ids ex jv_SH gj_124 124 [some (.ref (s0.heap.size + (0 : Int).toNat)), some (jv_i a1), none, some (jv_i x3_26), none, none] [jv_i y0_124] := by
            intro y0_124 gj_124 h
            unfold wB_L_solvers_124 at h
            refine jv_istore_n (ls' := [some (.ref (s0.heap.size + (0 : Int).toNat)), some (jv_i a1), some (jv_i y0_124), some (jv_i x3_26), none, none]) C dL_solvers_124 (Nat.lt_of_lt_of_eq (Nat.le_of_ble_eq_true rfl) hml) rfl ?_
            refine jv_iincn C dL_solvers_125 (Nat.lt_of_lt_of_eq (Nat.le_of_ble_eq_true rfl) hml) rfl (fun v3_125 ev3_125 => ?_)
            replace h := h v3_125 ev3_125
            refine jv_lset (ls' := [some (.ref (s0.heap.size + (0 : Int).toNat)), some (jv_i a1), some (jv_i y0_124), some (jv_i v3_125), none, none]) rfl ?_
            refine jv_goto (tgt := 26) C dL_solvers_128 rfl ?_
            exact jv_less (ls' := [some (.ref (s0.heap.size + (0 : Int).toNat)), some (jv_i a1), some (jv_i y0_124), some (jv_i v3_125), none, none]) ⟨rfl, ⟨rfl, ⟨rfl, ⟨rfl, trivial⟩⟩⟩⟩ (hK26 _ _ _ h)
          have hJ123 : ∀ (gj_123 : jv_Mem), wB_L_solvers_123 K26 x3_26 gj_123 → jv_V p l e (jv_rm 7 159 0 0) s m args below meth c 0 0 (jv_ZM below s0 D ids ex jv_SH (jv_qi Q) args s 0 0) s0 D ids ex jv_SH gj_123 123 [some (.ref (s0.heap.size + (0 : Int).toNat)), some (jv_i a1), none, some (jv_i x3_26), none, none] [] := by
            intro gj_123 h
            unfold wB_L_solvers_123 at h
            refine jv_const C dL_solvers_123 ?_
            exact jv_less (ls' := [some (.ref (s0.heap.size + (0 : Int).toNat)), some (jv_i a1), none, some (jv_i x3_26), none, none]) ⟨rfl, ⟨rfl, ⟨rfl, trivial⟩⟩⟩ (hJ124 _ _ h)
          obtain ⟨hr_65, h1_65, h2_65⟩ := h
          refine jv_if_lt (tgt := 123) C hr_65 dL_solvers_65 rfl (fun hc_65 => ?_) (fun hc_65 => ?_)
          · replace h := h1_65 hc_65
            exact jv_less (ls' := [some (.ref (s0.heap.size + (0 : Int).toNat)), some (jv_i a1), none, some (jv_i x3_26), none, none]) ⟨rfl, ⟨rfl, ⟨rfl, trivial⟩⟩⟩ (hJ123 _ h)
          · replace h := h2_65 hc_65
            refine jv_iload C dL_solvers_68 rfl ?_
            refine jv_iload_n C dL_solvers_70 rfl ?_
            obtain ⟨hr_71, h1_71, h2_71⟩ := h
            refine jv_icmp_ge (tgt := 123) C hr_71.1 hr_71.2 dL_solvers_71 rfl (fun hc_71 => ?_) (fun hc_71 => ?_)
            · replace h := h1_71 hc_71
              exact jv_less (ls' := [some (.ref (s0.heap.size + (0 : Int).toNat)), some (jv_i a1), none, some (jv_i x3_26), none, none]) ⟨rfl, ⟨rfl, ⟨rfl, trivial⟩⟩⟩ (hJ123 _ h)
            · replace h := h2_71 hc_71
              refine jv_aload_n C dL_solvers_74 rfl ?_
              refine jv_iload C dL_solvers_75 rfl ?_
              refine jv_callVi C (M_X8_streak h) kw_L_60 sS_0 rfl rfl ⟨rfl, rfl⟩ (st := []) rfl rfl ⟨rfl, rfl⟩ dL_solvers_77 (fun r_77 g_77 h => ?_)
              refine jv_aload_n C dL_solvers_80 rfl ?_
              refine jv_iload C dL_solvers_81 rfl ?_
              refine jv_callVi C (M_X8_streak h) kw_L_60 sS_0 rfl rfl ⟨rfl, rfl⟩ (st := [jv_i r_77]) rfl rfl ⟨rfl, rfl⟩ dL_solvers_83 (fun r_83 g_83 h => ?_)
              obtain ⟨hr_86, h1_86, h2_86⟩ := h
              refine jv_icmp_lt (tgt := 123) C hr_86.1 hr_86.2 dL_solvers_86 rfl (fun hc_86 => ?_) (fun hc_86 => ?_)
              · replace h := h1_86 hc_86
                exact jv_less (ls' := [some (.ref (s0.heap.size + (0 : Int).toNat)), some (jv_i a1), none, some (jv_i x3_26), none, none]) ⟨rfl, ⟨rfl, ⟨rfl, trivial⟩⟩⟩ (hJ123 _ h)
              · replace h := h2_86 hc_86
                refine jv_aload_n C dL_solvers_89 rfl ?_
                refine jv_iload C dL_solvers_90 rfl ?_
                refine jv_callVi C (M_X8_streak h) kw_L_60 sS_0 rfl rfl ⟨rfl, rfl⟩ (st := []) rfl rfl ⟨rfl, rfl⟩ dL_solvers_92 (fun r_92 g_92 h => ?_)
                refine jv_aload_n C dL_solvers_95 rfl ?_
                refine jv_iload C dL_solvers_96 rfl ?_
                refine jv_callVi C (M_X8_streak h) kw_L_60 sS_0 rfl rfl ⟨rfl, rfl⟩ (st := [jv_i r_92]) rfl rfl ⟨rfl, rfl⟩ dL_solvers_98 (fun r_98 g_98 h => ?_)
                have hJ119 : ∀ (gj_119 : jv_Mem), wB_L_solvers_119 K26 x3_26 gj_119 → jv_V p l e (jv_rm 7 159 0 0) s m args below meth c 0 0 (jv_ZM below s0 D ids ex jv_SH (jv_qi Q) args s 0 0) s0 D ids ex jv_SH gj_119 119 [some (.ref (s0.heap.size + (0 : Int).toNat)), some (jv_i a1), none, some (jv_i x3_26), none, none] [] := by
                  intro gj_119 h
                  unfold wB_L_solvers_119 at h
                  refine jv_const C dL_solvers_119 ?_
                  refine jv_goto (tgt := 124) C dL_solvers_120 rfl ?_
                  exact jv_less (ls' := [some (.ref (s0.heap.size + (0 : Int).toNat)), some (jv_i a1), none, some (jv_i x3_26), none, none]) ⟨rfl, ⟨rfl, ⟨rfl, trivial⟩⟩⟩ (hJ124 _ _ h)
                obtain ⟨hr_101, h1_101, h2_101⟩ := h
                refine jv_icmp_gt (tgt := 119) C hr_101.1 hr_101.2 dL_solvers_101 rfl (fun hc_101 => ?_) (fun hc_101 => ?_)
                · replace h := h1_101 hc_101
                  exact jv_less (ls' := [some (.ref (s0.heap.size + (0 : Int).toNat)), some (jv_i a1), none, some (jv_i x3_26), none, none]) ⟨rfl, ⟨rfl, ⟨rfl, trivial⟩⟩⟩ (hJ119 _ h)
                · replace h := h2_101 hc_101
                  refine jv_aload_n C dL_solvers_104 rfl ?_
                  refine jv_iload C dL_solvers_105 rfl ?_
                  refine jv_callVi C (M_X8_coins h) kw_L_63 sS_0 rfl rfl ⟨rfl, rfl⟩ (st := []) rfl rfl ⟨rfl, rfl⟩ dL_solvers_107 (fun r_107 g_107 h => ?_)
                  refine jv_aload_n C dL_solvers_110 rfl ?_
                  refine jv_iload C dL_solvers_111 rfl ?_
                  refine jv_callVi C (M_X8_coins h) kw_L_63 sS_0 rfl rfl ⟨rfl, rfl⟩ (st := [jv_i r_107]) rfl rfl ⟨rfl, rfl⟩ dL_solvers_113 (fun r_113 g_113 h => ?_)
                  obtain ⟨hr_116, h1_116, h2_116⟩ := h
                  refine jv_icmp_lt (tgt := 123) C hr_116.1 hr_116.2 dL_solvers_116 rfl (fun hc_116 => ?_) (fun hc_116 => ?_)
                  · replace h := h1_116 hc_116
                    exact jv_less (ls' := [some (.ref (s0.heap.size + (0 : Int).toNat)), some (jv_i a1), none, some (jv_i x3_26), none, none]) ⟨rfl, ⟨rfl, ⟨rfl, trivial⟩⟩⟩ (hJ123 _ h)
                  · replace h := h2_116 hc_116
                    exact jv_less (ls' := [some (.ref (s0.heap.size + (0 : Int).toNat)), some (jv_i a1), none, some (jv_i x3_26), none, none]) ⟨rfl, ⟨rfl, ⟨rfl, trivial⟩⟩⟩ (hJ119 _ h)
        obtain ⟨hr_46, h1_46, h2_46⟩ := h
        refine jv_icmp_ge (tgt := 59) C hr_46.1 hr_46.2 dL_solvers_46 rfl (fun hc_46 => ?_) (fun hc_46 => ?_)
        · replace h := h1_46 hc_46
          refine jv_iload C dL_solvers_59 rfl ?_
          exact jv_less (ls' := [some (.ref (s0.heap.size + (0 : Int).toNat)), some (jv_i a1), none, some (jv_i x3_26), some (jv_i r_37), none]) ⟨rfl, ⟨rfl, ⟨rfl, ⟨rfl, trivial⟩⟩⟩⟩ (hJ61 _ _ h)
        · replace h := h2_46 hc_46
          refine jv_aload_n C dL_solvers_49 rfl ?_
          refine jv_iload_n C dL_solvers_50 rfl ?_
          refine jv_const C dL_solvers_51 ?_
          refine jv_iadd C dL_solvers_52 ?_
          refine jv_callVi C (M_X8_solverAt h) kw_L_57 sS_0 rfl rfl ⟨rfl, rfl⟩ (st := []) rfl rfl ⟨rfl, rfl⟩ dL_solvers_53 (fun r_53 g_53 h => ?_)
          refine jv_goto (tgt := 61) C dL_solvers_56 rfl ?_
          exact jv_less (ls' := [some (.ref (s0.heap.size + (0 : Int).toNat)), some (jv_i a1), none, some (jv_i x3_26), some (jv_i r_37), none]) ⟨rfl, ⟨rfl, ⟨rfl, ⟨rfl, trivial⟩⟩⟩⟩ (hJ61 _ _ h)
  have hJ22 : ∀ (gj_22 : jv_Mem), wB_L_solvers_22 a1 Q gj_22 → jv_V p l e (jv_rm 7 159 0 0) s m args below meth c 0 0 (jv_ZM below s0 D ids ex jv_SH (jv_qi Q) args s 0 0) s0 D ids ex jv_SH gj_22 22 [some (.ref (s0.heap.size + (0 : Int).toNat)), some (jv_i a1), none, none, none, none] [] := by
    intro gj_22 h
    unfold wB_L_solvers_22 at h
    refine jv_const C dL_solvers_22 ?_
    exact jv_less (ls' := [some (.ref (s0.heap.size + (0 : Int).toNat)), some (jv_i a1), none, none, none, none]) ⟨rfl, ⟨rfl, trivial⟩⟩ (hJ23 _ _ h)
  obtain ⟨hr_6, h1_6, h2_6⟩ := h
  refine jv_icmp_ne (tgt := 22) C hr_6 ⟨by decide, by decide⟩ dL_solvers_6 rfl (fun hc_6 => ?_) (fun hc_6 => ?_)
  · replace h := h1_6 hc_6
    exact jv_less (ls' := [some (.ref (s0.heap.size + (0 : Int).toNat)), some (jv_i a1), none, none, none, none]) ⟨rfl, ⟨rfl, trivial⟩⟩ (hJ22 _ h)
  · replace h := h2_6 hc_6
    refine jv_aload_n C dL_solvers_9 rfl ?_
    refine jv_const C dL_solvers_10 ?_
    refine jv_callVi C (M_X8_solverAt h) kw_L_57 sS_0 rfl rfl ⟨rfl, rfl⟩ (st := []) rfl rfl ⟨rfl, rfl⟩ dL_solvers_11 (fun r_11 g_11 h => ?_)
    refine jv_const C dL_solvers_14 ?_
    obtain ⟨hr_15, h1_15, h2_15⟩ := h
    refine jv_icmp_ne (tgt := 22) C hr_15 ⟨by decide, by decide⟩ dL_solvers_15 rfl (fun hc_15 => ?_) (fun hc_15 => ?_)
    · replace h := h1_15 hc_15
      exact jv_less (ls' := [some (.ref (s0.heap.size + (0 : Int).toNat)), some (jv_i a1), none, none, none, none]) ⟨rfl, ⟨rfl, trivial⟩⟩ (hJ22 _ h)
    · replace h := h2_15 hc_15
      refine jv_const C dL_solvers_18 ?_
      refine jv_goto (tgt := 23) C dL_solvers_19 rfl ?_
      exact jv_less (ls' := [some (.ref (s0.heap.size + (0 : Int).toNat)), some (jv_i a1), none, none, none, none]) ⟨rfl, ⟨rfl, trivial⟩⟩ (hJ23 _ _ h)

def wB_L_fill_140 (K45 : Int → Int → jv_Mem → Prop) (x3_45 : Int) (y0_140 : Int) (gj_140 : jv_Mem) : Prop :=
  (∀ v3_141 : Int, v3_141 = x3_45 + 1 → K45 y0_140 v3_141 gj_140)
def wB_L_fill_139 (K45 : Int → Int → jv_Mem → Prop) (x3_45 : Int) (gj_139 : jv_Mem) : Prop :=
  wB_L_fill_140 K45 x3_45 0 gj_139
def wB_L_fill_97 (K45 : Int → Int → jv_Mem → Prop) (x3_45 : Int) (y0_97 : Int) (gj_97 : jv_Mem) : Prop :=
  (wp_X8_fillAt x3_45 (fun (r_101 : Int) (g_101 : jv_Mem) => (wp_X8_fillAt (x3_45 + 3) (fun (r_108 : Int) (g_108 : jv_Mem) => (wp_X8_fillAt (x3_45 + 6) (fun (r_116 : Int) (g_116 : jv_Mem) => (wp_L_spells r_101 r_108 r_116 2 (fun (g_120 : jv_Mem) => ((jv_r y0_97) ∧ (y0_97 = 0 → wB_L_fill_139 K45 x3_45 g_120) ∧ (¬ y0_97 = 0 → (wp_X8_beginning (fun (r_128 : Int) (g_128 : jv_Mem) => ((jv_r r_128) ∧ (¬ r_128 = 1 → wB_L_fill_139 K45 x3_45 g_128) ∧ (r_128 = 1 → wB_L_fill_140 K45 x3_45 1 g_128))) g_120)))) g_116)) g_108)) g_101)) gj_97)
def wB_L_fill_42 (Q : Int → jv_Mem → Prop) (y0_42 : Int) (gj_42 : jv_Mem) : Prop :=
  jv_lp2 (fun (K45 : Int → Int → jv_Mem → Prop) (x2_45 x3_45 : Int) (gl_45 : jv_Mem) => ((jv_r x3_45) ∧ (3 ≤ x3_45 → ((x2_45 = 0 ∨ x2_45 = 1) ∧ Q x2_45 gl_45)) ∧ (x3_45 < 3 → ((jv_r x2_45) ∧ (x2_45 = 0 → ((x2_45 = 0 ∨ x2_45 = 1) ∧ Q x2_45 gl_45)) ∧ (¬ x2_45 = 0 → (wp_X8_fillAt (3 * x3_45) (fun (r_59 : Int) (g_59 : jv_Mem) => (wp_X8_fillAt ((3 * x3_45) + 1) (fun (r_68 : Int) (g_68 : jv_Mem) => (wp_X8_fillAt ((3 * x3_45) + 2) (fun (r_77 : Int) (g_77 : jv_Mem) => (wp_L_spells r_59 r_68 r_77 0 (fun (g_81 : jv_Mem) => (wp_X8_beginning (fun (r_85 : Int) (g_85 : jv_Mem) => ((jv_r r_85) ∧ (¬ r_85 = 1 → wB_L_fill_97 K45 x3_45 0 g_85) ∧ (r_85 = 1 → wB_L_fill_97 K45 x3_45 1 g_85))) g_81)) g_77)) g_68)) g_59)) gl_45)))))) y0_42 0 gj_42
def wB_L_fill_41 (Q : Int → jv_Mem → Prop) (gj_41 : jv_Mem) : Prop :=
  wB_L_fill_42 Q 0 gj_41
def wp_L_fill (Q : Int → jv_Mem → Prop) (g : jv_Mem) : Prop :=
  (wp_X8_fillWeight (fun (r_1 : Int) (g_1 : jv_Mem) => ((jv_r r_1) ∧ (¬ r_1 = ((-1)) → (wp_X8_fills (fun (r_24 : Int) (g_24 : jv_Mem) => ((jv_r r_24) ∧ (r_24 ≤ 0 → wB_L_fill_41 Q g_24) ∧ (0 < r_24 → ((jv_r r_1) ∧ (594 < r_1 → wB_L_fill_41 Q g_24) ∧ (r_1 ≤ 594 → wB_L_fill_42 Q 1 g_24))))) g_1)) ∧ (r_1 = ((-1)) → (wp_X8_fills (fun (r_11 : Int) (g_11 : jv_Mem) => ((jv_r r_11) ∧ (¬ r_11 = 0 → Q 0 g_11) ∧ (r_11 = 0 → Q 1 g_11))) g_1)))) g)
set_option maxHeartbeats 4000000 in
set_option maxRecDepth 100000 in
theorem M_L_fill {l : Launch} {s0 : State} {b0 : Addr} {D : va_G} {ids : Nat → ClassId} {ex : Option Nat} {g : jv_Mem} {Q : Int → jv_Mem → Prop} (h : wp_L_fill Q g) : jv_M l s0 b0 D ids yL_fill cL_fill 4 (some .boolean) 5 116 0 0 ex jv_SH g [.ref (s0.heap.size + (0 : Int).toNat)] ex jv_SH (jv_qi Q) := by
  refine jv_M.of (by decide +kernel) rfl rfl (fun p e s m args below meth c C hml hr hlk hnm => ?_)
  replace C : jv_C p s m args c cL_fill RL s0 b0 D ids := C
  show jv_V p l e (jv_rm 5 116 0 0) s m args below meth c 0 0 (jv_ZM below s0 D ids ex jv_SH (jv_qi Q) args s 0 0) s0 D ids ex jv_SH g 0 [some (.ref (s0.heap.size + (0 : Int).toNat)), none, none, none] []
  unfold wp_L_fill at h
  refine jv_aload_n C dL_fill_0 rfl ?_
  refine jv_callVi C (M_X8_fillWeight h) kw_L_66 sS_0 rfl rfl ⟨rfl, rfl⟩ (st := []) rfl rfl ⟨rfl, rfl⟩ dL_fill_1 (fun r_1 g_1 h => ?_)
  refine jv_istore_n (ls' := [some (.ref (s0.heap.size + (0 : Int).toNat)), some (jv_i r_1), none, none]) C dL_fill_4 (Nat.lt_of_lt_of_eq (Nat.le_of_ble_eq_true rfl) hml) rfl ?_
  refine jv_iload_n C dL_fill_5 rfl ?_
  refine jv_const C dL_fill_6 ?_
  obtain ⟨hr_7, h1_7, h2_7⟩ := h
  refine jv_icmp_ne (tgt := 23) C hr_7 ⟨by decide, by decide⟩ dL_fill_7 rfl (fun hc_7 => ?_) (fun hc_7 => ?_)
  · replace h := h1_7 hc_7
    refine jv_aload_n C dL_fill_23 rfl ?_
    refine jv_callVi C (M_X8_fills h) kw_L_69 sS_0 rfl rfl ⟨rfl, rfl⟩ (st := []) rfl rfl ⟨rfl, rfl⟩ dL_fill_24 (fun r_24 g_24 h => ?_)
    have hJ42 : ∀ (y0_42 : Int) (gj_42 : jv_Mem), wB_L_fill_42 Q y0_42 gj_42 → jv_V p l e (jv_rm 5 116 0 0) s m args below meth c 0 0 (jv_ZM below s0 D ids ex jv_SH (jv_qi Q) args s 0 0) s0 D ids ex jv_SH gj_42 42 [some (.ref (s0.heap.size + (0 : Int).toNat)), none, none, none] [jv_i y0_42] := by
      intro y0_42 gj_42 h
      unfold wB_L_fill_42 at h
      refine jv_istore_n (ls' := [some (.ref (s0.heap.size + (0 : Int).toNat)), none, some (jv_i y0_42), none]) C dL_fill_42 (Nat.lt_of_lt_of_eq (Nat.le_of_ble_eq_true rfl) hml) rfl ?_
      refine jv_const C dL_fill_43 ?_
      refine jv_istore_n (ls' := [some (.ref (s0.heap.size + (0 : Int).toNat)), none, some (jv_i y0_42), some (jv_i 0)]) C dL_fill_44 (Nat.lt_of_lt_of_eq (Nat.le_of_ble_eq_true rfl) hml) rfl ?_
      refine jv_less (ls' := [some (.ref (s0.heap.size + (0 : Int).toNat)), none, some (jv_i y0_42), some (jv_i 0)]) ⟨rfl, ⟨rfl, ⟨rfl, trivial⟩⟩⟩ ?_
      refine jv_lp2.use h (fun (x2_45 x3_45 : Int) (gl_45 : jv_Mem) => jv_V p l e (jv_rm 5 116 0 0) s m args below meth c 0 0 (jv_ZM below s0 D ids ex jv_SH (jv_qi Q) args s 0 0) s0 D ids ex jv_SH gl_45 45 [some (.ref (s0.heap.size + (0 : Int).toNat)), none, some (jv_i x2_45), some (jv_i x3_45)] []) ?_
      intro K45 hK45 x2_45 x3_45 gl_45 h
      refine jv_iload_n C dL_fill_45 rfl ?_
      refine jv_const C dL_fill_46 ?_
      obtain ⟨hr_47, h1_47, h2_47⟩ := h
      refine jv_icmp_ge (tgt := 147) C hr_47 ⟨by decide, by decide⟩ dL_fill_47 rfl (fun hc_47 => ?_) (fun hc_47 => ?_)
      · replace h := h1_47 hc_47
        refine jv_iload_n C dL_fill_147 rfl ?_
        obtain ⟨hz_148, h⟩ := h
        exact jv_zret C hr hlk (jv_nz hz_148) ⟨_, rfl, h⟩ dL_fill_148 ⟨rfl, rfl⟩
      · replace h := h2_47 hc_47
        refine jv_iload_n C dL_fill_50 rfl ?_
        obtain ⟨hr_51, h1_51, h2_51⟩ := h
        refine jv_if_eq (tgt := 147) C hr_51 dL_fill_51 rfl (fun hc_51 => ?_) (fun hc_51 => ?_)
        · replace h := h1_51 hc_51
          refine jv_iload_n C dL_fill_147 rfl ?_
          obtain ⟨hz_148, h⟩ := h
          exact jv_zret C hr hlk (jv_nz hz_148) ⟨_, rfl, h⟩ dL_fill_148 ⟨rfl, rfl⟩
        · replace h := h2_51 hc_51
          refine jv_aload_n C dL_fill_54 rfl ?_
          refine jv_aload_n C dL_fill_55 rfl ?_
          refine jv_const C dL_fill_56 ?_
          refine jv_iload_n C dL_fill_57 rfl ?_
          refine jv_imul C dL_fill_58 ?_
          refine jv_callVi C (M_X8_fillAt h) kw_L_72 sS_0 rfl rfl ⟨rfl, rfl⟩ (st := [.ref (s0.heap.size + (0 : Int).toNat)]) rfl rfl ⟨rfl, rfl⟩ dL_fill_59 (fun r_59 g_59 h => ?_)
          refine jv_aload_n C dL_fill_62 rfl ?_
          refine jv_const C dL_fill_63 ?_
          refine jv_iload_n C dL_fill_64 rfl ?_
          refine jv_imul C dL_fill_65 ?_
          refine jv_const C dL_fill_66 ?_
          refine jv_iadd C dL_fill_67 ?_
          refine jv_callVi C (M_X8_fillAt h) kw_L_72 sS_0 rfl rfl ⟨rfl, rfl⟩ (st := [jv_i r_59, .ref (s0.heap.size + (0 : Int).toNat)]) rfl rfl ⟨rfl, rfl⟩ dL_fill_68 (fun r_68 g_68 h => ?_)
          refine jv_aload_n C dL_fill_71 rfl ?_
          refine jv_const C dL_fill_72 ?_
          refine jv_iload_n C dL_fill_73 rfl ?_
          refine jv_imul C dL_fill_74 ?_
          refine jv_const C dL_fill_75 ?_
          refine jv_iadd C dL_fill_76 ?_
          refine jv_callVi C (M_X8_fillAt h) kw_L_72 sS_0 rfl rfl ⟨rfl, rfl⟩ (st := [jv_i r_68, jv_i r_59, .ref (s0.heap.size + (0 : Int).toNat)]) rfl rfl ⟨rfl, rfl⟩ dL_fill_77 (fun r_77 g_77 h => ?_)
          refine jv_const C dL_fill_80 ?_
          refine jv_callSv C (M_L_spells h) kw_L_75 rfl ⟨rfl, rfl⟩ (st := []) rfl rfl ⟨rfl, rfl⟩ dL_fill_81 (fun g_81 h => ?_)
          refine jv_aload_n C dL_fill_84 rfl ?_
          refine jv_callVi C (M_X8_beginning h) kw_L_79 sS_0 rfl rfl ⟨rfl, rfl⟩ (st := []) rfl rfl ⟨rfl, rfl⟩ dL_fill_85 (fun r_85 g_85 h => ?_)
          refine jv_const C dL_fill_88 ?_
          have hJ97 : ∀ (y0_97 : Int) (gj_97 : jv_Mem), wB_L_fill_97 K45 x3_45 y0_97 gj_97 → jv_V p l e (jv_rm 5 116 0 0) s m args below meth c 0 0 (jv_ZM below s0 D ids ex jv_SH (jv_qi Q) args s 0 0) s0 D ids ex jv_SH gj_97 97 [some (.ref (s0.heap.size + (0 : Int).toNat)), none, none, some (jv_i x3_45)] [jv_i y0_97] := by
            intro y0_97 gj_97 h
            unfold wB_L_fill_97 at h
            refine jv_istore_n (ls' := [some (.ref (s0.heap.size + (0 : Int).toNat)), none, some (jv_i y0_97), some (jv_i x3_45)]) C dL_fill_97 (Nat.lt_of_lt_of_eq (Nat.le_of_ble_eq_true rfl) hml) rfl ?_
            refine jv_aload_n C dL_fill_98 rfl ?_
            refine jv_aload_n C dL_fill_99 rfl ?_
            refine jv_iload_n C dL_fill_100 rfl ?_
            refine jv_callVi C (M_X8_fillAt h) kw_L_72 sS_0 rfl rfl ⟨rfl, rfl⟩ (st := [.ref (s0.heap.size + (0 : Int).toNat)]) rfl rfl ⟨rfl, rfl⟩ dL_fill_101 (fun r_101 g_101 h => ?_)
            refine jv_aload_n C dL_fill_104 rfl ?_
            refine jv_iload_n C dL_fill_105 rfl ?_
            refine jv_const C dL_fill_106 ?_
            refine jv_iadd C dL_fill_107 ?_
            refine jv_callVi C (M_X8_fillAt h) kw_L_72 sS_0 rfl rfl ⟨rfl, rfl⟩ (st := [jv_i r_101, .ref (s0.heap.size + (0 : Int).toNat)]) rfl rfl ⟨rfl, rfl⟩ dL_fill_108 (fun r_108 g_108 h => ?_)
            refine jv_aload_n C dL_fill_111 rfl ?_
            refine jv_iload_n C dL_fill_112 rfl ?_
            refine jv_bipush C dL_fill_113 (by decide +kernel) ?_
            refine jv_iadd C dL_fill_115 ?_
            refine jv_callVi C (M_X8_fillAt h) kw_L_72 sS_0 rfl rfl ⟨rfl, rfl⟩ (st := [jv_i r_108, jv_i r_101, .ref (s0.heap.size + (0 : Int).toNat)]) rfl rfl ⟨rfl, rfl⟩ dL_fill_116 (fun r_116 g_116 h => ?_)
            refine jv_const C dL_fill_119 ?_
            refine jv_callSv C (M_L_spells h) kw_L_75 rfl ⟨rfl, rfl⟩ (st := []) rfl rfl ⟨rfl, rfl⟩ dL_fill_120 (fun g_120 h => ?_)
            refine jv_iload_n C dL_fill_123 rfl ?_
            have hJ140 : ∀ (y0_140 : Int) (gj_140 : jv_Mem), wB_L_fill_140 K45 x3_45 y0_140 gj_140 → jv_V p l e (jv_rm 5 116 0 0) s m args below meth c 0 0 (jv_ZM below s0 D ids ex jv_SH (jv_qi Q) args s 0 0) s0 D ids ex jv_SH gj_140 140 [some (.ref (s0.heap.size + (0 : Int).toNat)), none, none, some (jv_i x3_45)] [jv_i y0_140] := by
              intro y0_140 gj_140 h
              unfold wB_L_fill_140 at h
              refine jv_istore_n (ls' := [some (.ref (s0.heap.size + (0 : Int).toNat)), none, some (jv_i y0_140), some (jv_i x3_45)]) C dL_fill_140 (Nat.lt_of_lt_of_eq (Nat.le_of_ble_eq_true rfl) hml) rfl ?_
              refine jv_iincn C dL_fill_141 (Nat.lt_of_lt_of_eq (Nat.le_of_ble_eq_true rfl) hml) rfl (fun v3_141 ev3_141 => ?_)
              replace h := h v3_141 ev3_141
              refine jv_lset (ls' := [some (.ref (s0.heap.size + (0 : Int).toNat)), none, some (jv_i y0_140), some (jv_i v3_141)]) rfl ?_
              refine jv_goto (tgt := 45) C dL_fill_144 rfl ?_
              exact jv_less (ls' := [some (.ref (s0.heap.size + (0 : Int).toNat)), none, some (jv_i y0_140), some (jv_i v3_141)]) ⟨rfl, ⟨rfl, ⟨rfl, trivial⟩⟩⟩ (hK45 _ _ _ h)
            have hJ139 : ∀ (gj_139 : jv_Mem), wB_L_fill_139 K45 x3_45 gj_139 → jv_V p l e (jv_rm 5 116 0 0) s m args below meth c 0 0 (jv_ZM below s0 D ids ex jv_SH (jv_qi Q) args s 0 0) s0 D ids ex jv_SH gj_139 139 [some (.ref (s0.heap.size + (0 : Int).toNat)), none, none, some (jv_i x3_45)] [] := by
              intro gj_139 h
              unfold wB_L_fill_139 at h
              refine jv_const C dL_fill_139 ?_
              exact jv_less (ls' := [some (.ref (s0.heap.size + (0 : Int).toNat)), none, none, some (jv_i x3_45)]) ⟨rfl, ⟨rfl, trivial⟩⟩ (hJ140 _ _ h)
            obtain ⟨hr_124, h1_124, h2_124⟩ := h
            refine jv_if_eq (tgt := 139) C hr_124 dL_fill_124 rfl (fun hc_124 => ?_) (fun hc_124 => ?_)
            · replace h := h1_124 hc_124
              exact jv_less (ls' := [some (.ref (s0.heap.size + (0 : Int).toNat)), none, none, some (jv_i x3_45)]) ⟨rfl, ⟨rfl, trivial⟩⟩ (hJ139 _ h)
            · replace h := h2_124 hc_124
              refine jv_aload_n C dL_fill_127 rfl ?_
              refine jv_callVi C (M_X8_beginning h) kw_L_79 sS_0 rfl rfl ⟨rfl, rfl⟩ (st := []) rfl rfl ⟨rfl, rfl⟩ dL_fill_128 (fun r_128 g_128 h => ?_)
              refine jv_const C dL_fill_131 ?_
              obtain ⟨hr_132, h1_132, h2_132⟩ := h
              refine jv_icmp_ne (tgt := 139) C hr_132 ⟨by decide, by decide⟩ dL_fill_132 rfl (fun hc_132 => ?_) (fun hc_132 => ?_)
              · replace h := h1_132 hc_132
                exact jv_less (ls' := [some (.ref (s0.heap.size + (0 : Int).toNat)), none, none, some (jv_i x3_45)]) ⟨rfl, ⟨rfl, trivial⟩⟩ (hJ139 _ h)
              · replace h := h2_132 hc_132
                refine jv_const C dL_fill_135 ?_
                refine jv_goto (tgt := 140) C dL_fill_136 rfl ?_
                exact jv_less (ls' := [some (.ref (s0.heap.size + (0 : Int).toNat)), none, none, some (jv_i x3_45)]) ⟨rfl, ⟨rfl, trivial⟩⟩ (hJ140 _ _ h)
          obtain ⟨hr_89, h1_89, h2_89⟩ := h
          refine jv_icmp_ne (tgt := 96) C hr_89 ⟨by decide, by decide⟩ dL_fill_89 rfl (fun hc_89 => ?_) (fun hc_89 => ?_)
          · replace h := h1_89 hc_89
            refine jv_const C dL_fill_96 ?_
            exact jv_less (ls' := [some (.ref (s0.heap.size + (0 : Int).toNat)), none, none, some (jv_i x3_45)]) ⟨rfl, ⟨rfl, trivial⟩⟩ (hJ97 _ _ h)
          · replace h := h2_89 hc_89
            refine jv_const C dL_fill_92 ?_
            refine jv_goto (tgt := 97) C dL_fill_93 rfl ?_
            exact jv_less (ls' := [some (.ref (s0.heap.size + (0 : Int).toNat)), none, none, some (jv_i x3_45)]) ⟨rfl, ⟨rfl, trivial⟩⟩ (hJ97 _ _ h)
    have hJ41 : ∀ (gj_41 : jv_Mem), wB_L_fill_41 Q gj_41 → jv_V p l e (jv_rm 5 116 0 0) s m args below meth c 0 0 (jv_ZM below s0 D ids ex jv_SH (jv_qi Q) args s 0 0) s0 D ids ex jv_SH gj_41 41 [some (.ref (s0.heap.size + (0 : Int).toNat)), none, none, none] [] := by
      intro gj_41 h
      unfold wB_L_fill_41 at h
      refine jv_const C dL_fill_41 ?_
      exact jv_less (ls' := [some (.ref (s0.heap.size + (0 : Int).toNat)), none, none, none]) ⟨rfl, trivial⟩ (hJ42 _ _ h)
    obtain ⟨hr_27, h1_27, h2_27⟩ := h
    refine jv_if_le (tgt := 41) C hr_27 dL_fill_27 rfl (fun hc_27 => ?_) (fun hc_27 => ?_)
    · replace h := h1_27 hc_27
      exact jv_less (ls' := [some (.ref (s0.heap.size + (0 : Int).toNat)), none, none, none]) ⟨rfl, trivial⟩ (hJ41 _ h)
    · replace h := h2_27 hc_27
      refine jv_iload_n C dL_fill_30 rfl ?_
      refine jv_sipush C dL_fill_31 (by decide +kernel) ?_
      obtain ⟨hr_34, h1_34, h2_34⟩ := h
      refine jv_icmp_gt (tgt := 41) C hr_34 ⟨by decide, by decide⟩ dL_fill_34 rfl (fun hc_34 => ?_) (fun hc_34 => ?_)
      · replace h := h1_34 hc_34
        exact jv_less (ls' := [some (.ref (s0.heap.size + (0 : Int).toNat)), none, none, none]) ⟨rfl, trivial⟩ (hJ41 _ h)
      · replace h := h2_34 hc_34
        refine jv_const C dL_fill_37 ?_
        refine jv_goto (tgt := 42) C dL_fill_38 rfl ?_
        exact jv_less (ls' := [some (.ref (s0.heap.size + (0 : Int).toNat)), none, none, none]) ⟨rfl, trivial⟩ (hJ42 _ _ h)
  · replace h := h2_7 hc_7
    refine jv_aload_n C dL_fill_10 rfl ?_
    refine jv_callVi C (M_X8_fills h) kw_L_69 sS_0 rfl rfl ⟨rfl, rfl⟩ (st := []) rfl rfl ⟨rfl, rfl⟩ dL_fill_11 (fun r_11 g_11 h => ?_)
    obtain ⟨hr_14, h1_14, h2_14⟩ := h
    refine jv_if_ne (tgt := 21) C hr_14 dL_fill_14 rfl (fun hc_14 => ?_) (fun hc_14 => ?_)
    · replace h := h1_14 hc_14
      refine jv_const C dL_fill_21 ?_
      exact jv_zret C hr hlk rfl ⟨_, rfl, h⟩ dL_fill_22 ⟨rfl, rfl⟩
    · replace h := h2_14 hc_14
      refine jv_const C dL_fill_17 ?_
      refine jv_goto (tgt := 22) C dL_fill_18 rfl ?_
      exact jv_zret C hr hlk rfl ⟨_, rfl, h⟩ dL_fill_22 ⟨rfl, rfl⟩

def wp_L_addWord (a1 : Int) (Q : Int → jv_Mem → Prop) (g : jv_Mem) : Prop :=
  (wp_X8_addWord a1 (fun (r_2 : Int) (g_2 : jv_Mem) => (∃ gG_2 : jv_Mem, jv_sm g_2 gG_2 ∧ Q r_2 gG_2)) (fun (E : String) (gx : jv_Mem) => (E = "java/lang/IllegalStateException" ∧ Q (-3) gx)) g)
set_option maxHeartbeats 4000000 in
set_option maxRecDepth 100000 in
theorem M_L_addWord {l : Launch} {s0 : State} {b0 : Addr} {D : va_G} {ids : Nat → ClassId} {g : jv_Mem} {a1 : Int} {Q : Int → jv_Mem → Prop} (hT : jv_T l s0 b0) (h : wp_L_addWord a1 Q g) : jv_MW l s0 b0 D ids yL_addWord cL_addWord 3 (some .int) [(0, 5, 6, 15)] 7 116 1 6 jv_SH g [.ref (s0.heap.size + (0 : Int).toNat), jv_i a1] (jv_qi Q) := by
  refine jv_MW.of (by decide +kernel) rfl rfl (fun p e s m args below meth c C hml hr hlk htab => ?_)
  replace C : jv_C p s m args c cL_addWord RL s0 b0 D ids := C
  show jv_V p l e (jv_rm 7 116 1 6) s m args below meth c 0 0 (jv_ZX below s0 D ids jv_SH (jv_qi Q) (fun _ _ => False) args s 1 6) s0 D ids none jv_SH g 0 [some (.ref (s0.heap.size + (0 : Int).toNat)), some (jv_i a1), none] []
  unfold wp_L_addWord at h
  refine jv_aload_n C dL_addWord_0 rfl ?_
  refine jv_iload_n C dL_addWord_1 rfl ?_
  refine jv_callVXi C (M_X8_addWord hT h) kw_L_9 sS_0 rfl rfl ⟨rfl, rfl⟩ (st := []) rfl rfl ⟨rfl, rfl⟩ dL_addWord_2 (fun r_2 g_2 h => ?_) (fun E gx h => ?_)
  rotate_left 1
  · obtain ⟨rfl, h⟩ := h
    refine jv_catch1 C htab ⟨rfl, rfl⟩ (by decide) kx_L_15 kz_IllegalStateException (fun q => ?_)
    refine jv_astore_n (ls' := [some (.ref (s0.heap.size + (0 : Int).toNat)), some (jv_i a1), some (.ref q)]) C dL_addWord_6 (Nat.lt_of_lt_of_eq (Nat.le_of_ble_eq_true rfl) hml) rfl ?_
    refine jv_bipush C dL_addWord_7 (by decide +kernel) ?_
    exact jv_xret (jv_iret C hr hlk ⟨_, rfl, h⟩ dL_addWord_9 ⟨rfl, rfl⟩)
  obtain ⟨gG_2, hG_2, h⟩ := h
  refine jv_gh hG_2 ?_
  exact jv_xret (jv_iret C hr hlk ⟨_, rfl, h⟩ dL_addWord_5 ⟨rfl, rfl⟩)

def wp_L_publish (Q : Int → jv_Mem → Prop) (g : jv_Mem) : Prop :=
  (wp_X8_publish (fun (r_1 : Int) (g_1 : jv_Mem) => (∃ gG_1 : jv_Mem, jv_sm g_1 gG_1 ∧ Q r_1 gG_1)) (fun (E : String) (gx : jv_Mem) => (E = "java/lang/IllegalStateException" ∧ Q (-3) gx)) g)
set_option maxHeartbeats 4000000 in
set_option maxRecDepth 100000 in
theorem M_L_publish {l : Launch} {s0 : State} {b0 : Addr} {D : va_G} {ids : Nat → ClassId} {g : jv_Mem} {Q : Int → jv_Mem → Prop} (hT : jv_T l s0 b0) (h : wp_L_publish Q g) : jv_MW l s0 b0 D ids yL_publish cL_publish 2 (some .int) [(0, 4, 5, 15)] 7 138 1 6 jv_SH g [.ref (s0.heap.size + (0 : Int).toNat)] (jv_qi Q) := by
  refine jv_MW.of (by decide +kernel) rfl rfl (fun p e s m args below meth c C hml hr hlk htab => ?_)
  replace C : jv_C p s m args c cL_publish RL s0 b0 D ids := C
  show jv_V p l e (jv_rm 7 138 1 6) s m args below meth c 0 0 (jv_ZX below s0 D ids jv_SH (jv_qi Q) (fun _ _ => False) args s 1 6) s0 D ids none jv_SH g 0 [some (.ref (s0.heap.size + (0 : Int).toNat)), none] []
  unfold wp_L_publish at h
  refine jv_aload_n C dL_publish_0 rfl ?_
  refine jv_callVXi C (M_X8_publish hT h) kw_L_17 sS_0 rfl rfl ⟨rfl, rfl⟩ (st := []) rfl rfl ⟨rfl, rfl⟩ dL_publish_1 (fun r_1 g_1 h => ?_) (fun E gx h => ?_)
  rotate_left 1
  · obtain ⟨rfl, h⟩ := h
    refine jv_catch1 C htab ⟨rfl, rfl⟩ (by decide) kx_L_15 kz_IllegalStateException (fun q => ?_)
    refine jv_astore_n (ls' := [some (.ref (s0.heap.size + (0 : Int).toNat)), some (.ref q)]) C dL_publish_5 (Nat.lt_of_lt_of_eq (Nat.le_of_ble_eq_true rfl) hml) rfl ?_
    refine jv_bipush C dL_publish_6 (by decide +kernel) ?_
    exact jv_xret (jv_iret C hr hlk ⟨_, rfl, h⟩ dL_publish_8 ⟨rfl, rfl⟩)
  obtain ⟨gG_1, hG_1, h⟩ := h
  refine jv_gh hG_1 ?_
  exact jv_xret (jv_iret C hr hlk ⟨_, rfl, h⟩ dL_publish_4 ⟨rfl, rfl⟩)

def wp_L_clue (a1 : Int) (Q : Int → jv_Mem → Prop) (g : jv_Mem) : Prop :=
  (wp_X8_clue a1 (fun (r_2 : Int) (g_2 : jv_Mem) => (∃ gG_2 : jv_Mem, jv_sm g_2 gG_2 ∧ Q r_2 gG_2)) (fun (E : String) (gx : jv_Mem) => (E = "java/lang/IllegalStateException" ∧ Q (-3) gx)) g)
set_option maxHeartbeats 4000000 in
set_option maxRecDepth 100000 in
theorem M_L_clue {l : Launch} {s0 : State} {b0 : Addr} {D : va_G} {ids : Nat → ClassId} {g : jv_Mem} {a1 : Int} {Q : Int → jv_Mem → Prop} (hT : jv_T l s0 b0) (h : wp_L_clue a1 Q g) : jv_MW l s0 b0 D ids yL_clue cL_clue 3 (some .int) [(0, 5, 6, 15)] 7 116 1 6 jv_SH g [.ref (s0.heap.size + (0 : Int).toNat), jv_i a1] (jv_qi Q) := by
  refine jv_MW.of (by decide +kernel) rfl rfl (fun p e s m args below meth c C hml hr hlk htab => ?_)
  replace C : jv_C p s m args c cL_clue RL s0 b0 D ids := C
  show jv_V p l e (jv_rm 7 116 1 6) s m args below meth c 0 0 (jv_ZX below s0 D ids jv_SH (jv_qi Q) (fun _ _ => False) args s 1 6) s0 D ids none jv_SH g 0 [some (.ref (s0.heap.size + (0 : Int).toNat)), some (jv_i a1), none] []
  unfold wp_L_clue at h
  refine jv_aload_n C dL_clue_0 rfl ?_
  refine jv_iload_n C dL_clue_1 rfl ?_
  refine jv_callVXi C (M_X8_clue hT h) kw_L_21 sS_0 rfl rfl ⟨rfl, rfl⟩ (st := []) rfl rfl ⟨rfl, rfl⟩ dL_clue_2 (fun r_2 g_2 h => ?_) (fun E gx h => ?_)
  rotate_left 1
  · obtain ⟨rfl, h⟩ := h
    refine jv_catch1 C htab ⟨rfl, rfl⟩ (by decide) kx_L_15 kz_IllegalStateException (fun q => ?_)
    refine jv_astore_n (ls' := [some (.ref (s0.heap.size + (0 : Int).toNat)), some (jv_i a1), some (.ref q)]) C dL_clue_6 (Nat.lt_of_lt_of_eq (Nat.le_of_ble_eq_true rfl) hml) rfl ?_
    refine jv_bipush C dL_clue_7 (by decide +kernel) ?_
    exact jv_xret (jv_iret C hr hlk ⟨_, rfl, h⟩ dL_clue_9 ⟨rfl, rfl⟩)
  obtain ⟨gG_2, hG_2, h⟩ := h
  refine jv_gh hG_2 ?_
  exact jv_xret (jv_iret C hr hlk ⟨_, rfl, h⟩ dL_clue_5 ⟨rfl, rfl⟩)

def wp_L_edit (a1 : Int) (a2 : Int) (Q : Int → jv_Mem → Prop) (g : jv_Mem) : Prop :=
  (wp_X8_edit a1 a2 (fun (r_3 : Int) (g_3 : jv_Mem) => (∃ gG_3 : jv_Mem, jv_sm g_3 gG_3 ∧ Q r_3 gG_3)) (fun (E : String) (gx : jv_Mem) => (E = "java/lang/IllegalStateException" ∧ Q (-3) gx)) g)
set_option maxHeartbeats 4000000 in
set_option maxRecDepth 100000 in
theorem M_L_edit {l : Launch} {s0 : State} {b0 : Addr} {D : va_G} {ids : Nat → ClassId} {g : jv_Mem} {a1 : Int} {a2 : Int} {Q : Int → jv_Mem → Prop} (hT : jv_T l s0 b0) (h : wp_L_edit a1 a2 Q g) : jv_MW l s0 b0 D ids yL_edit cL_edit 4 (some .int) [(0, 6, 7, 15)] 7 117 1 6 jv_SH g [.ref (s0.heap.size + (0 : Int).toNat), jv_i a1, jv_i a2] (jv_qi Q) := by
  refine jv_MW.of (by decide +kernel) rfl rfl (fun p e s m args below meth c C hml hr hlk htab => ?_)
  replace C : jv_C p s m args c cL_edit RL s0 b0 D ids := C
  show jv_V p l e (jv_rm 7 117 1 6) s m args below meth c 0 0 (jv_ZX below s0 D ids jv_SH (jv_qi Q) (fun _ _ => False) args s 1 6) s0 D ids none jv_SH g 0 [some (.ref (s0.heap.size + (0 : Int).toNat)), some (jv_i a1), some (jv_i a2), none] []
  unfold wp_L_edit at h
  refine jv_aload_n C dL_edit_0 rfl ?_
  refine jv_iload_n C dL_edit_1 rfl ?_
  refine jv_iload_n C dL_edit_2 rfl ?_
  refine jv_callVXi C (M_X8_edit hT h) kw_L_24 sS_0 rfl rfl ⟨rfl, rfl⟩ (st := []) rfl rfl ⟨rfl, rfl⟩ dL_edit_3 (fun r_3 g_3 h => ?_) (fun E gx h => ?_)
  rotate_left 1
  · obtain ⟨rfl, h⟩ := h
    refine jv_catch1 C htab ⟨rfl, rfl⟩ (by decide) kx_L_15 kz_IllegalStateException (fun q => ?_)
    refine jv_astore_n (ls' := [some (.ref (s0.heap.size + (0 : Int).toNat)), some (jv_i a1), some (jv_i a2), some (.ref q)]) C dL_edit_7 (Nat.lt_of_lt_of_eq (Nat.le_of_ble_eq_true rfl) hml) rfl ?_
    refine jv_bipush C dL_edit_8 (by decide +kernel) ?_
    exact jv_xret (jv_iret C hr hlk ⟨_, rfl, h⟩ dL_edit_10 ⟨rfl, rfl⟩)
  obtain ⟨gG_3, hG_3, h⟩ := h
  refine jv_gh hG_3 ?_
  exact jv_xret (jv_iret C hr hlk ⟨_, rfl, h⟩ dL_edit_6 ⟨rfl, rfl⟩)

def wp_L_enter (a1 : Int) (a2 : Int) (a3 : Int) (a4 : Int) (Q : Int → jv_Mem → Prop) (g : jv_Mem) : Prop :=
  (wp_X8_enter a1 a2 a3 a4 (fun (r_6 : Int) (g_6 : jv_Mem) => (∃ gG_6 : jv_Mem, jv_sm g_6 gG_6 ∧ ((jv_r r_6) ∧ (r_6 = 0 → Q 0 gG_6) ∧ (¬ r_6 = 0 → Q 1 gG_6)))) (fun (E : String) (gx : jv_Mem) => (E = "java/lang/IllegalStateException" ∧ Q (-3) gx)) g)
set_option maxHeartbeats 4000000 in
set_option maxRecDepth 100000 in
theorem M_L_enter {l : Launch} {s0 : State} {b0 : Addr} {D : va_G} {ids : Nat → ClassId} {g : jv_Mem} {a1 : Int} {a2 : Int} {a3 : Int} {a4 : Int} {Q : Int → jv_Mem → Prop} (hT : jv_T l s0 b0) (h : wp_L_enter a1 a2 a3 a4 Q g) : jv_MW l s0 b0 D ids yL_enter cL_enter 6 (some .int) [(0, 17, 18, 15)] 8 145 1 6 jv_SH g [.ref (s0.heap.size + (0 : Int).toNat), jv_i a1, jv_i a2, jv_i a3, jv_i a4] (jv_qi Q) := by
  refine jv_MW.of (by decide +kernel) rfl rfl (fun p e s m args below meth c C hml hr hlk htab => ?_)
  replace C : jv_C p s m args c cL_enter RL s0 b0 D ids := C
  show jv_V p l e (jv_rm 8 145 1 6) s m args below meth c 0 0 (jv_ZX below s0 D ids jv_SH (jv_qi Q) (fun _ _ => False) args s 1 6) s0 D ids none jv_SH g 0 [some (.ref (s0.heap.size + (0 : Int).toNat)), some (jv_i a1), some (jv_i a2), some (jv_i a3), some (jv_i a4), none] []
  unfold wp_L_enter at h
  refine jv_aload_n C dL_enter_0 rfl ?_
  refine jv_iload_n C dL_enter_1 rfl ?_
  refine jv_iload_n C dL_enter_2 rfl ?_
  refine jv_iload_n C dL_enter_3 rfl ?_
  refine jv_iload C dL_enter_4 rfl ?_
  refine jv_callVXi C (M_X8_enter hT h) kw_L_28 sS_0 rfl rfl ⟨rfl, rfl⟩ (st := []) rfl rfl ⟨rfl, rfl⟩ dL_enter_6 (fun r_6 g_6 h => ?_) (fun E gx h => ?_)
  rotate_left 1
  · obtain ⟨rfl, h⟩ := h
    refine jv_catch1 C htab ⟨rfl, rfl⟩ (by decide) kx_L_15 kz_IllegalStateException (fun q => ?_)
    refine jv_astore (ls' := [some (.ref (s0.heap.size + (0 : Int).toNat)), some (jv_i a1), some (jv_i a2), some (jv_i a3), some (jv_i a4), some (.ref q)]) C dL_enter_18 (Nat.lt_of_lt_of_eq (Nat.le_of_ble_eq_true rfl) hml) rfl ?_
    refine jv_bipush C dL_enter_20 (by decide +kernel) ?_
    exact jv_xret (jv_iret C hr hlk ⟨_, rfl, h⟩ dL_enter_22 ⟨rfl, rfl⟩)
  obtain ⟨gG_6, hG_6, h⟩ := h
  refine jv_gh hG_6 ?_
  obtain ⟨hr_9, h1_9, h2_9⟩ := h
  refine jv_if_eq (tgt := 16) C hr_9 dL_enter_9 rfl (fun hc_9 => ?_) (fun hc_9 => ?_)
  · replace h := h1_9 hc_9
    refine jv_const C dL_enter_16 ?_
    exact jv_xret (jv_iret C hr hlk ⟨_, rfl, h⟩ dL_enter_17 ⟨rfl, rfl⟩)
  · replace h := h2_9 hc_9
    refine jv_const C dL_enter_12 ?_
    refine jv_goto (tgt := 17) C dL_enter_13 rfl ?_
    exact jv_xret (jv_iret C hr hlk ⟨_, rfl, h⟩ dL_enter_17 ⟨rfl, rfl⟩)

def wp_L_help (a1 : Int) (a2 : Int) (a3 : Int) (Q : Int → jv_Mem → Prop) (g : jv_Mem) : Prop :=
  (wp_X8_help a1 a2 a3 (fun (r_4 : Int) (g_4 : jv_Mem) => (∃ gG_4 : jv_Mem, jv_sm g_4 gG_4 ∧ Q r_4 gG_4)) (fun (E : String) (gx : jv_Mem) => (E = "java/lang/IllegalStateException" ∧ Q (-3) gx)) g)
set_option maxHeartbeats 4000000 in
set_option maxRecDepth 100000 in
theorem M_L_help {l : Launch} {s0 : State} {b0 : Addr} {D : va_G} {ids : Nat → ClassId} {g : jv_Mem} {a1 : Int} {a2 : Int} {a3 : Int} {Q : Int → jv_Mem → Prop} (hT : jv_T l s0 b0) (h : wp_L_help a1 a2 a3 Q g) : jv_MW l s0 b0 D ids yL_help cL_help 5 (some .int) [(0, 7, 8, 15)] 8 143 2 12 jv_SH g [.ref (s0.heap.size + (0 : Int).toNat), jv_i a1, jv_i a2, jv_i a3] (jv_qi Q) := by
  refine jv_MW.of (by decide +kernel) rfl rfl (fun p e s m args below meth c C hml hr hlk htab => ?_)
  replace C : jv_C p s m args c cL_help RL s0 b0 D ids := C
  show jv_V p l e (jv_rm 8 143 2 12) s m args below meth c 0 0 (jv_ZX below s0 D ids jv_SH (jv_qi Q) (fun _ _ => False) args s 2 12) s0 D ids none jv_SH g 0 [some (.ref (s0.heap.size + (0 : Int).toNat)), some (jv_i a1), some (jv_i a2), some (jv_i a3), none] []
  unfold wp_L_help at h
  refine jv_aload_n C dL_help_0 rfl ?_
  refine jv_iload_n C dL_help_1 rfl ?_
  refine jv_iload_n C dL_help_2 rfl ?_
  refine jv_iload_n C dL_help_3 rfl ?_
  refine jv_callVXi C (M_X8_help hT h) kw_L_32 sS_0 rfl rfl ⟨rfl, rfl⟩ (st := []) rfl rfl ⟨rfl, rfl⟩ dL_help_4 (fun r_4 g_4 h => ?_) (fun E gx h => ?_)
  rotate_left 1
  · obtain ⟨rfl, h⟩ := h
    refine jv_catch1 C htab ⟨rfl, rfl⟩ (by decide) kx_L_15 kz_IllegalStateException (fun q => ?_)
    refine jv_astore (ls' := [some (.ref (s0.heap.size + (0 : Int).toNat)), some (jv_i a1), some (jv_i a2), some (jv_i a3), some (.ref q)]) C dL_help_8 (Nat.lt_of_lt_of_eq (Nat.le_of_ble_eq_true rfl) hml) rfl ?_
    refine jv_bipush C dL_help_10 (by decide +kernel) ?_
    exact jv_xret (jv_iret C hr hlk ⟨_, rfl, h⟩ dL_help_12 ⟨rfl, rfl⟩)
  obtain ⟨gG_4, hG_4, h⟩ := h
  refine jv_gh hG_4 ?_
  exact jv_xret (jv_iret C hr hlk ⟨_, rfl, h⟩ dL_help_7 ⟨rfl, rfl⟩)

def wp_L_judge (a1 : Int) (a2 : Int) (Q : Int → jv_Mem → Prop) (g : jv_Mem) : Prop :=
  (wp_X8_judge a1 a2 (fun (r_3 : Int) (g_3 : jv_Mem) => (∃ gG_3 : jv_Mem, jv_sm g_3 gG_3 ∧ Q r_3 gG_3)) (fun (E : String) (gx : jv_Mem) => (E = "java/lang/IllegalStateException" ∧ Q (-3) gx)) g)
set_option maxHeartbeats 4000000 in
set_option maxRecDepth 100000 in
theorem M_L_judge {l : Launch} {s0 : State} {b0 : Addr} {D : va_G} {ids : Nat → ClassId} {g : jv_Mem} {a1 : Int} {a2 : Int} {Q : Int → jv_Mem → Prop} (hT : jv_T l s0 b0) (h : wp_L_judge a1 a2 Q g) : jv_MW l s0 b0 D ids yL_judge cL_judge 4 (some .int) [(0, 6, 7, 15)] 7 123 1 6 jv_SH g [.ref (s0.heap.size + (0 : Int).toNat), jv_i a1, jv_i a2] (jv_qi Q) := by
  refine jv_MW.of (by decide +kernel) rfl rfl (fun p e s m args below meth c C hml hr hlk htab => ?_)
  replace C : jv_C p s m args c cL_judge RL s0 b0 D ids := C
  show jv_V p l e (jv_rm 7 123 1 6) s m args below meth c 0 0 (jv_ZX below s0 D ids jv_SH (jv_qi Q) (fun _ _ => False) args s 1 6) s0 D ids none jv_SH g 0 [some (.ref (s0.heap.size + (0 : Int).toNat)), some (jv_i a1), some (jv_i a2), none] []
  unfold wp_L_judge at h
  refine jv_aload_n C dL_judge_0 rfl ?_
  refine jv_iload_n C dL_judge_1 rfl ?_
  refine jv_iload_n C dL_judge_2 rfl ?_
  refine jv_callVXi C (M_X8_judge hT h) kw_L_36 sS_0 rfl rfl ⟨rfl, rfl⟩ (st := []) rfl rfl ⟨rfl, rfl⟩ dL_judge_3 (fun r_3 g_3 h => ?_) (fun E gx h => ?_)
  rotate_left 1
  · obtain ⟨rfl, h⟩ := h
    refine jv_catch1 C htab ⟨rfl, rfl⟩ (by decide) kx_L_15 kz_IllegalStateException (fun q => ?_)
    refine jv_astore_n (ls' := [some (.ref (s0.heap.size + (0 : Int).toNat)), some (jv_i a1), some (jv_i a2), some (.ref q)]) C dL_judge_7 (Nat.lt_of_lt_of_eq (Nat.le_of_ble_eq_true rfl) hml) rfl ?_
    refine jv_bipush C dL_judge_8 (by decide +kernel) ?_
    exact jv_xret (jv_iret C hr hlk ⟨_, rfl, h⟩ dL_judge_10 ⟨rfl, rfl⟩)
  obtain ⟨gG_3, hG_3, h⟩ := h
  refine jv_gh hG_3 ?_
  exact jv_xret (jv_iret C hr hlk ⟨_, rfl, h⟩ dL_judge_6 ⟨rfl, rfl⟩)

