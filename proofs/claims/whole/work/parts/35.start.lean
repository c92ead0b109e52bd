theorem kn_L_90 : jv_KI RL 90 yX8_init cX8_init 2 0 := ⟨(jv_tb_in (jv_tm (k := 22) (by decide +kernel)) (by decide +kernel)), (jv_tb_in (jv_tm (k := 23) (by decide +kernel)) (by decide +kernel)), (jv_tb_in (jv_tm (k := 1) (by decide +kernel)) (by decide +kernel)), (jv_tb_in (jv_tm (k := 24) (by decide +kernel)) (by decide +kernel)), rfl, by decide +kernel, by decide +kernel, by decide +kernel⟩
theorem kn_L_93 : jv_KI RL 93 yX9_init cX9_init 1 0 := ⟨(jv_tb_in (jv_tm (k := 945) (by decide +kernel)) (by decide +kernel)), (jv_tb_in (jv_tm (k := 946) (by decide +kernel)) (by decide +kernel)), (jv_tb_in (jv_tm (k := 11) (by decide +kernel)) (by decide +kernel)), (jv_tb_in (jv_tm (k := 947) (by decide +kernel)) (by decide +kernel)), rfl, by decide +kernel, by decide +kernel, by decide +kernel⟩
theorem kl_L_8 : Cond.classLink RL 8 "Clueyard" ∈ jv_tb := (jv_tb_in (jv_tm (k := 20) (by decide +kernel)) (by decide +kernel))
theorem kl_L_91 : Cond.classLink RL 91 "ClueyardModel" ∈ jv_tb := (jv_tb_in (jv_tm (k := 943) (by decide +kernel)) (by decide +kernel))
def jv_g00 : jv_Mem := fun _ _ => 0
def jv_gi : jv_Mem := (jv_fill (jv_fill jv_g00 9 1458 (-1)) 11 9 (-1))
theorem jv_SH_lt {j : Int} {k : jv_Kd} (h : jv_SH j = some k) : 0 ≤ j ∧ j < 149 := by
  unfold jv_SH at h
  by_cases h1 : j < 0
  · rw [if_pos h1] at h; cases h
  · refine ⟨by omega, ?_⟩
    by_cases h2 : j < 126
    · omega
    · rw [if_neg h1, if_neg (by omega), if_neg (by omega), if_neg h2] at h
      have := (List.getElem?_eq_some_iff.mp h).1
      have e : jv_S2.length = 23 := rfl
      omega
theorem jv_sh1 : ∀ j k, (jv_FS (jv_SHx 0 0) jv_no 0 (.inr (8, [none, none, none, none, none, none, none, none, none, some none, some none, some none])) ((1 : Nat) : Int)) j = some k → jv_su jv_no ((0 : Nat) : Int) (.inr (8, [none, none, none, none, none, none, none, none, none, some none, some none, some none])) j = some k := by
  intro j k h
  unfold jv_FS at h
  unfold jv_su jv_no
  by_cases h1 : j < 0
  · rw [if_pos h1] at h; cases h
  · rw [if_neg h1] at h
    by_cases h2 : j = 0
    · rw [if_pos h2] at h; rw [if_pos (by omega)]; exact h
    · rw [if_neg h2, if_neg (by omega)] at h; cases h
theorem jv_sh2 {d : jv_Kd} : ∀ j k, (jv_FS jv_SH jv_SH 126 d 127) j = some k → jv_su (jv_FS (jv_SHx 20 6) jv_no 0 (.inr (8, [some (some 1), some (some 3), some (some 10), some (some 14), some (some 19), some (some 20), some (some 21), some (some 26), some (some 29), some none, some none, some none])) 126) ((126 : Nat) : Int) d j = some k := by
  intro j k h
  unfold jv_su
  by_cases h1 : j = 126
  · subst h1
    rw [jv_FS_i] at h
    rw [if_pos (by decide)]; exact h
  · rw [if_neg (by omega)]
    unfold jv_FS at h
    by_cases h2 : j < 126
    · rw [if_pos h2] at h
      have hl := jv_SH_lt h
      unfold jv_FS
      rw [if_neg (by omega)]
      by_cases h3 : j = 0
      · subst h3; rw [if_pos rfl]; exact h
      · rw [if_neg h3, if_pos h2]
        unfold jv_SHx
        by_cases h4 : j = 19
        · subst h4; exact h
        · rw [if_neg h4]
          by_cases h5 : j = 20
          · subst h5; exact h
          · rw [if_neg h5]; exact h
    · rw [if_neg h2, if_neg h1, if_neg (by omega)] at h; cases h
theorem jv_sh3 : ∀ j k, jv_SH j = some k → (jv_FS jv_SH jv_SH 126 (.inr (9, [some (some ((126 + 1 : Nat) : Int)), some none, some none, some (some ((126 + 2 : Nat) : Int)), some (some ((126 + 3 : Nat) : Int)), some (some ((126 + 4 : Nat) : Int)), some (some ((126 + 5 : Nat) : Int)), some (some ((126 + 6 : Nat) : Int)), some none, some none, some (some ((126 + 7 : Nat) : Int)), some none, some (some ((126 + 8 : Nat) : Int)), some (some ((126 + 9 : Nat) : Int)), some (some ((126 + 10 : Nat) : Int)), some none, some none, some (some ((126 + 11 : Nat) : Int)), some (some ((126 + 12 : Nat) : Int)), some (some ((126 + 13 : Nat) : Int)), some (some ((126 + 14 : Nat) : Int)), some (some ((126 + 15 : Nat) : Int)), some none, some (some ((126 + 16 : Nat) : Int)), some (some ((126 + 17 : Nat) : Int)), some (some ((126 + 18 : Nat) : Int)), some (some ((126 + 19 : Nat) : Int)), some (some ((126 + 20 : Nat) : Int)), some (some ((126 + 21 : Nat) : Int)), some none])) 149) j = some k := by
  intro j k h
  have hl := jv_SH_lt h
  unfold jv_FS
  by_cases h1 : j < 126
  · rw [if_pos h1]; exact h
  · rw [if_neg h1]
    by_cases h2 : j = 126
    · subst h2; rw [if_pos rfl]; exact h
    · rw [if_neg h2, if_pos hl.2]; exact h
set_option maxHeartbeats 4000000 in
set_option maxRecDepth 100000 in
theorem jv_start {p : Program} {l : Launch} {e : Env} {m : MethodId} {below : List Frame} {meth : Method} {c : Code} {s0 : State} {b0 : Addr} {D : va_G} {ids : Nat → ClassId} {L : Nat} {xs : Nat → Int32} (hT : jv_T l s0 b0) (C : jv_C p s0 m #[Value.ref b0] c code RL s0 b0 D ids) (hml : 7 = c.maxLocals) (hr : meth.sig.returnType = ret) (hlk : meth.locks = false) (hX : va_X b0 L xs s0 s0.heap) (hbl : b0 < s0.heap.size) (hL : L ≤ 2560) {I : Int → jv_Mem → Prop} (hI0 : I 0 jv_gi) (hm : ∀ (x4 : Int) (g : jv_Mem), I x4 g → I (x4 + 5) g) (hc0 : ∀ (x4 : Int) (g : jv_Mem), 0 ≤ x4 → x4 + 4 < ((L : Nat) : Int) → I x4 g → wp_LC_0 xs L x4 (I (x4 + 5)) g) (hc1 : ∀ (x4 : Int) (g : jv_Mem), 0 ≤ x4 → x4 + 4 < ((L : Nat) : Int) → I x4 g → wp_LC_1 xs L x4 (I (x4 + 5)) g) (hc2 : ∀ (x4 : Int) (g : jv_Mem), 0 ≤ x4 → x4 + 4 < ((L : Nat) : Int) → I x4 g → wp_LC_2 xs L x4 (I (x4 + 5)) g) (hc3 : ∀ (x4 : Int) (g : jv_Mem), 0 ≤ x4 → x4 + 4 < ((L : Nat) : Int) → I x4 g → wp_LC_3 xs L x4 (I (x4 + 5)) g) (hc4 : ∀ (x4 : Int) (g : jv_Mem), 0 ≤ x4 → x4 + 4 < ((L : Nat) : Int) → I x4 g → wp_LC_4 xs L x4 (I (x4 + 5)) g) (hc5 : ∀ (x4 : Int) (g : jv_Mem), 0 ≤ x4 → x4 + 4 < ((L : Nat) : Int) → I x4 g → wp_LC_5 xs L x4 (I (x4 + 5)) g) (hc6 : ∀ (x4 : Int) (g : jv_Mem), 0 ≤ x4 → x4 + 4 < ((L : Nat) : Int) → I x4 g → wp_LC_6 xs L x4 (I (x4 + 5)) g) (hc7 : ∀ (x4 : Int) (g : jv_Mem), 0 ≤ x4 → x4 + 4 < ((L : Nat) : Int) → I x4 g → wp_LC_7 xs L x4 (I (x4 + 5)) g) (hc8 : ∀ (x4 : Int) (g : jv_Mem), 0 ≤ x4 → x4 + 4 < ((L : Nat) : Int) → I x4 g → wp_LC_8 xs L x4 (I (x4 + 5)) g) (hc9 : ∀ (x4 : Int) (g : jv_Mem), 0 ≤ x4 → x4 + 4 < ((L : Nat) : Int) → I x4 g → wp_LC_9 xs L x4 (I (x4 + 5)) g) (hc10 : ∀ (x4 : Int) (g : jv_Mem), 0 ≤ x4 → x4 + 4 < ((L : Nat) : Int) → I x4 g → wp_LC_10 xs L x4 (I (x4 + 5)) g) (hc11 : ∀ (x4 : Int) (g : jv_Mem), 0 ≤ x4 → x4 + 4 < ((L : Nat) : Int) → I x4 g → wp_LC_11 xs L x4 (I (x4 + 5)) g) (hc12 : ∀ (x4 : Int) (g : jv_Mem), 0 ≤ x4 → x4 + 4 < ((L : Nat) : Int) → I x4 g → wp_LC_12 xs L x4 (I (x4 + 5)) g) (hc13 : ∀ (x4 : Int) (g : jv_Mem), 0 ≤ x4 → x4 + 4 < ((L : Nat) : Int) → I x4 g → wp_LC_13 xs L x4 (I (x4 + 5)) g) (hc14 : ∀ (x4 : Int) (g : jv_Mem), 0 ≤ x4 → x4 + 4 < ((L : Nat) : Int) → I x4 g → wp_LC_14 xs L x4 (I (x4 + 5)) g) (hc15 : ∀ (x4 : Int) (g : jv_Mem), 0 ≤ x4 → x4 + 4 < ((L : Nat) : Int) → I x4 g → wp_LC_15 xs L x4 (I (x4 + 5)) g) (hc16 : ∀ (x4 : Int) (g : jv_Mem), 0 ≤ x4 → x4 + 4 < ((L : Nat) : Int) → I x4 g → wp_LC_16 xs L x4 (I (x4 + 5)) g) (hc17 : ∀ (x4 : Int) (g : jv_Mem), 0 ≤ x4 → x4 + 4 < ((L : Nat) : Int) → I x4 g → wp_LC_17 xs L x4 (I (x4 + 5)) g) (hc18 : ∀ (x4 : Int) (g : jv_Mem), 0 ≤ x4 → x4 + 4 < ((L : Nat) : Int) → I x4 g → wp_LC_18 xs L x4 (I (x4 + 5)) g) (hc19 : ∀ (x4 : Int) (g : jv_Mem), 0 ≤ x4 → x4 + 4 < ((L : Nat) : Int) → I x4 g → wp_LC_19 xs L x4 (I (x4 + 5)) g) (hc20 : ∀ (x4 : Int) (g : jv_Mem), 0 ≤ x4 → x4 + 4 < ((L : Nat) : Int) → I x4 g → wp_LC_20 xs L x4 (I (x4 + 5)) g) (hc21 : ∀ (x4 : Int) (g : jv_Mem), 0 ≤ x4 → x4 + 4 < ((L : Nat) : Int) → I x4 g → wp_LC_21 xs L x4 (I (x4 + 5)) g) (hc22 : ∀ (x4 : Int) (g : jv_Mem), 0 ≤ x4 → x4 + 4 < ((L : Nat) : Int) → I x4 g → wp_LC_22 xs L x4 (I (x4 + 5)) g) (hc23 : ∀ (x4 : Int) (g : jv_Mem), 0 ≤ x4 → x4 + 4 < ((L : Nat) : Int) → I x4 g → wp_LC_23 xs L x4 (I (x4 + 5)) g) (hc24 : ∀ (x4 : Int) (g : jv_Mem), 0 ≤ x4 → x4 + 4 < ((L : Nat) : Int) → I x4 g → wp_LC_24 xs L x4 (I (x4 + 5)) g) (hc25 : ∀ (x4 : Int) (g : jv_Mem), 0 ≤ x4 → x4 + 4 < ((L : Nat) : Int) → I x4 g → wp_LC_25 xs L x4 (I (x4 + 5)) g) (hc26 : ∀ (x4 : Int) (g : jv_Mem), 0 ≤ x4 → x4 + 4 < ((L : Nat) : Int) → I x4 g → wp_LC_26 xs L x4 (I (x4 + 5)) g) (hc27 : ∀ (x4 : Int) (g : jv_Mem), 0 ≤ x4 → x4 + 4 < ((L : Nat) : Int) → I x4 g → wp_LC_27 xs L x4 (I (x4 + 5)) g) (hc28 : ∀ (x4 : Int) (g : jv_Mem), 0 ≤ x4 → x4 + 4 < ((L : Nat) : Int) → I x4 g → wp_LC_28 xs L x4 (I (x4 + 5)) g) (hc29 : ∀ (x4 : Int) (g : jv_Mem), 0 ≤ x4 → x4 + 4 < ((L : Nat) : Int) → I x4 g → wp_LC_29 xs L x4 (I (x4 + 5)) g) (hc30 : ∀ (x4 : Int) (g : jv_Mem), 0 ≤ x4 → x4 + 4 < ((L : Nat) : Int) → I x4 g → wp_LC_30 xs L x4 (I (x4 + 5)) g) : jv_V p l e room_1 s0 m #[Value.ref b0] below meth c 0 0 (lw_Z below #[Value.ref b0] s0) s0 D ids (some 0) jv_no jv_g00 0 [some (.ref b0), none, none, none, none, none, none] [] := by
  refine jv_new (n := 0) C (ci := 8) (N := 12) (ds := [none, none, none, none, none, none, none, none, none, some none, some none, some none]) rfl ku_X8 tyX8_ok kl_L_8 kq_X8 kj_X8 (fun b => rfl) (fun j hj => by rcases (show j = 0 ∨ j = 1 ∨ j = 2 ∨ j = 3 ∨ j = 4 ∨ j = 5 ∨ j = 6 ∨ j = 7 ∨ j = 8 ∨ j = 9 ∨ j = 10 ∨ j = 11 by omega) with rfl | rfl | rfl | rfl | rfl | rfl | rfl | rfl | rfl | rfl | rfl | rfl <;> rfl) ⟨rfl, rfl⟩ dL_law_0 ?_
  refine jv_shw jv_sh1 ?_
  refine jv_dup C rfl dL_law_3 ?_
  refine jv_callI C (MI_X8 (fun a b h => rfl)) kn_L_90 rfl ⟨rfl, rfl⟩ (st := [.ref (s0.heap.size + (0 : Int).toNat)]) rfl rfl ⟨rfl, rfl⟩ dL_law_4 ?_
  rintro _ _ ⟨rfl, rfl⟩
  refine jv_astore_n (ls' := [some (.ref b0), some (.ref (s0.heap.size + (0 : Int).toNat)), none, none, none, none, none]) C dL_law_7 (Nat.lt_of_lt_of_eq (Nat.le_of_ble_eq_true rfl) hml) rfl ?_
  refine jv_new (n := 126) C (ci := 9) (N := 30) (ds := [none, some none, some none, none, none, none, none, none, some none, some none, none, some none, none, none, none, some none, some none, none, none, none, none, none, some none, none, none, none, none, none, none, some none]) rfl ku_X9 tyX9_ok kl_L_91 kq_X9 kj_X9 (fun b => by simp only [jv_fill, jv_g00]; rw [if_neg (by omega), if_neg (by omega)]) (fun j hj => by rcases (show j = 0 ∨ j = 1 ∨ j = 2 ∨ j = 3 ∨ j = 4 ∨ j = 5 ∨ j = 6 ∨ j = 7 ∨ j = 8 ∨ j = 9 ∨ j = 10 ∨ j = 11 ∨ j = 12 ∨ j = 13 ∨ j = 14 ∨ j = 15 ∨ j = 16 ∨ j = 17 ∨ j = 18 ∨ j = 19 ∨ j = 20 ∨ j = 21 ∨ j = 22 ∨ j = 23 ∨ j = 24 ∨ j = 25 ∨ j = 26 ∨ j = 27 ∨ j = 28 ∨ j = 29 by omega) with rfl | rfl | rfl | rfl | rfl | rfl | rfl | rfl | rfl | rfl | rfl | rfl | rfl | rfl | rfl | rfl | rfl | rfl | rfl | rfl | rfl | rfl | rfl | rfl | rfl | rfl | rfl | rfl | rfl | rfl <;> rfl) ⟨rfl, rfl⟩ dL_law_8 ?_
  refine jv_shw (sh' := jv_FS jv_SH jv_SH 126 (.inr (9, [none, some none, some none, none, none, none, none, none, some none, some none, none, some none, none, none, none, some none, some none, none, none, none, none, none, some none, none, none, none, none, none, none, some none])) ((126 + 1 : Nat) : Int)) jv_sh2 ?_
  refine jv_dup C rfl dL_law_11 ?_
  refine jv_callI C (MI_X9 (F := jv_SH) (base := jv_SH) (i := 126) (by exact sS_127) (by exact sS_128) (by exact sS_129) (by exact sS_130) (by exact sS_131) (by exact sS_132) (by exact sS_133) (by exact sS_134) (by exact sS_135) (by exact sS_136) (by exact sS_137) (by exact sS_138) (by exact sS_139) (by exact sS_140) (by exact sS_141) (by exact sS_142) (by exact sS_143) (by exact sS_144) (by exact sS_145) (by exact sS_146) (by exact sS_147) (fun a b h => by simp only [jv_fill, jv_g00]; rw [if_neg (by omega), if_neg (by omega)])) kn_L_93 rfl ⟨rfl, rfl⟩ (st := [.ref (s0.heap.size + (126 : Int).toNat)]) rfl rfl ⟨rfl, rfl⟩ dL_law_12 ?_
  rintro _ _ ⟨rfl, rfl⟩
  refine jv_astore_n (ls' := [some (.ref b0), some (.ref (s0.heap.size + (0 : Int).toNat)), some (.ref (s0.heap.size + (126 : Int).toNat)), none, none, none, none]) C dL_law_15 (Nat.lt_of_lt_of_eq (Nat.le_of_ble_eq_true rfl) hml) rfl ?_
  refine jv_const C dL_law_16 ?_
  refine jv_newi (n := 148) (cn := 2) (N := 1) (at' := .long) C rfl (by decide) ka_long (fun b => by simp only [jv_fill, jv_g00]; rw [if_neg (by omega), if_neg (by omega)]) rfl ⟨rfl, rfl⟩ dL_law_17 ?_
  refine jv_shw (sh' := jv_FS jv_SH jv_SH 126 (.inr (9, [some (some ((126 + 1 : Nat) : Int)), some none, some none, some (some ((126 + 2 : Nat) : Int)), some (some ((126 + 3 : Nat) : Int)), some (some ((126 + 4 : Nat) : Int)), some (some ((126 + 5 : Nat) : Int)), some (some ((126 + 6 : Nat) : Int)), some none, some none, some (some ((126 + 7 : Nat) : Int)), some none, some (some ((126 + 8 : Nat) : Int)), some (some ((126 + 9 : Nat) : Int)), some (some ((126 + 10 : Nat) : Int)), some none, some none, some (some ((126 + 11 : Nat) : Int)), some (some ((126 + 12 : Nat) : Int)), some (some ((126 + 13 : Nat) : Int)), some (some ((126 + 14 : Nat) : Int)), some (some ((126 + 15 : Nat) : Int)), some none, some (some ((126 + 16 : Nat) : Int)), some (some ((126 + 17 : Nat) : Int)), some (some ((126 + 18 : Nat) : Int)), some (some ((126 + 19 : Nat) : Int)), some (some ((126 + 20 : Nat) : Int)), some (some ((126 + 21 : Nat) : Int)), some none])) ((148 + 1 : Nat) : Int)) (jv_FS_push (by exact sS_148) (by decide) (by decide)) ?_
  refine jv_shw (sh' := jv_SH) jv_sh3 ?_
  refine jv_astore_n (ls' := [some (.ref b0), some (.ref (s0.heap.size + (0 : Int).toNat)), some (.ref (s0.heap.size + (126 : Int).toNat)), some (.ref (s0.heap.size + (148 : Int).toNat)), none, none, none]) C dL_law_19 (Nat.lt_of_lt_of_eq (Nat.le_of_ble_eq_true rfl) hml) rfl ?_
  refine jv_const C dL_law_20 ?_
  refine jv_istore (ls' := [some (.ref b0), some (.ref (s0.heap.size + (0 : Int).toNat)), some (.ref (s0.heap.size + (126 : Int).toNat)), some (.ref (s0.heap.size + (148 : Int).toNat)), some (jv_i 0), none, none]) C dL_law_21 (Nat.lt_of_lt_of_eq (Nat.le_of_ble_eq_true rfl) hml) rfl ?_
  refine jv_noex ?_
  refine jv_wd (k := 1000 + 4 * (0 : Int).toNat + 0) (n := 50000 + 40 * (0 : Int).toNat + 0) (by decide) (by decide) ?_
  exact law_loop hT C hml hr hlk hX hbl hL (I := I) hm hc0 hc1 hc2 hc3 hc4 hc5 hc6 hc7 hc8 hc9 hc10 hc11 hc12 hc13 hc14 hc15 hc16 hc17 hc18 hc19 hc20 hc21 hc22 hc23 hc24 hc25 hc26 hc27 hc28 hc29 hc30 (L + 1) 0 jv_gi (by omega) (by omega) (by omega) hI0
theorem jv_hK {s0 : State} {b0 : Addr} (hts : ∀ w ∈ lw_tbl, w.before #[Value.ref b0] s0 = true) : ∃ (D : va_G) (ids : Nat → ClassId), va_K D vwCl (jv_tys ids) s0 := by
  have ht : ∀ w ∈ jv_tb, w.before #[Value.ref b0] s0 = true := fun w hw => hts w (List.mem_filter.mp hw).1
  have key : ∀ k : Nat, ∃ r : ClassId × (Nat → Nat), ∀ q, vwCl[k]? = some q → u_Kn s0 q.1 q.2.1 q.2.2 r.1 r.2 := by
    intro k
    match k with
    | 0 => obtain ⟨c, iS, h⟩ := u_known (C := RX0) (T := TX0) (N := 5) (n := 5) ht ku_X0 (ht _ kq_X0); exact ⟨(c, iS), fun q hq => by cases hq; exact h⟩
    | 1 => obtain ⟨c, iS, h⟩ := u_known (C := RX1) (T := TX1) (N := 5) (n := 5) ht ku_X1 (ht _ kq_X1); exact ⟨(c, iS), fun q hq => by cases hq; exact h⟩
    | 2 => obtain ⟨c, iS, h⟩ := u_known (C := RX2) (T := TX2) (N := 3) (n := 3) ht ku_X2 (ht _ kq_X2); exact ⟨(c, iS), fun q hq => by cases hq; exact h⟩
    | 3 => obtain ⟨c, iS, h⟩ := u_known (C := RX3) (T := TX3) (N := 5) (n := 5) ht ku_X3 (ht _ kq_X3); exact ⟨(c, iS), fun q hq => by cases hq; exact h⟩
    | 4 => obtain ⟨c, iS, h⟩ := u_known (C := RX4) (T := TX4) (N := 4) (n := 4) ht ku_X4 (ht _ kq_X4); exact ⟨(c, iS), fun q hq => by cases hq; exact h⟩
    | 5 => obtain ⟨c, iS, h⟩ := u_known (C := RX5) (T := TX5) (N := 2) (n := 2) ht ku_X5 (ht _ kq_X5); exact ⟨(c, iS), fun q hq => by cases hq; exact h⟩
    | 6 => obtain ⟨c, iS, h⟩ := u_known (C := RX6) (T := TX6) (N := 5) (n := 5) ht ku_X6 (ht _ kq_X6); exact ⟨(c, iS), fun q hq => by cases hq; exact h⟩
    | 7 => obtain ⟨c, iS, h⟩ := u_known (C := RX7) (T := TX7) (N := 7) (n := 7) ht ku_X7 (ht _ kq_X7); exact ⟨(c, iS), fun q hq => by cases hq; exact h⟩
    | 8 => obtain ⟨c, iS, h⟩ := u_known (C := RX8) (T := TX8) (N := 12) (n := 12) ht ku_X8 (ht _ kq_X8); exact ⟨(c, iS), fun q hq => by cases hq; exact h⟩
    | 9 => obtain ⟨c, iS, h⟩ := u_known (C := RX9) (T := TX9) (N := 30) (n := 30) ht ku_X9 (ht _ kq_X9); exact ⟨(c, iS), fun q hq => by cases hq; exact h⟩
    | k + 10 => exact ⟨(0, fun _ => 0), fun q hq => by simp [vwCl] at hq⟩
  have hf : ∀ k : Nat, ∀ q, vwCl[k]? = some q → u_Kn s0 q.1 q.2.1 q.2.2 (Classical.choose (key k)).1 (Classical.choose (key k)).2 := fun k => Classical.choose_spec (key k)
  have arr : ∀ ty : FieldType, (∀ C, ty ≠ .object C) → Cond.arrayClass ty ∈ jv_tb → ∃ cA, ArrOfT s0 cA ty ∧ va_RA s0 cA ty := by
    intro ty hno hw
    obtain ⟨cA, kA, comp, h1, h2, h3⟩ := Cond.arrayClass_spec (ht _ hw)
    refine ⟨cA, fun n z => ⟨fun k h => (by cases h), kA, h2, comp, h3⟩, ?_⟩
    cases ty <;> first | exact h1 | exact absurd rfl (hno _)
  have arq : ∀ C : String, Cond.arrayOver (.object C) ∈ lw_tbl → ∃ cA, ArrOfT s0 cA (.object C) ∧ va_RA s0 cA (.object C) := by
    intro C hw
    obtain ⟨comp, cA, kA, h1, -, h3, h4, h5⟩ := Cond.arrayOver_spec (hts _ hw)
    exact ⟨cA, fun n z => ⟨fun k h => (by cases h), kA, h3, comp, h4⟩, kA, comp, h3, h4, h1, h5⟩
  obtain ⟨i0, e0⟩ := arr .int (fun C h => by cases h) ka_int
  obtain ⟨i1, e1⟩ := arr .boolean (fun C h => by cases h) ka_boolean
  obtain ⟨i2, e2⟩ := arr .long (fun C h => by cases h) ka_long
  obtain ⟨i3, e3⟩ := arq RX3 kv_X3
  obtain ⟨i4, e4⟩ := arq RX4 kv_X4
  refine ⟨(fun k => (Classical.choose (key k)).1, fun k => (Classical.choose (key k)).2), fun k => [i0, i1, i2, i3, i4].getD k 0, fun c q hq => hf c q hq, fun k q hq => ?_⟩
  match k, hq with
  | 0, hq => cases hq; exact e0
  | 1, hq => cases hq; exact e1
  | 2, hq => cases hq; exact e2
  | 3, hq => cases hq; exact e3
  | 4, hq => cases hq; exact e4
  | k + 5, hq => simp [jv_tys] at hq
theorem jv_trace {l : Launch} (h : l.flags = flags0) : l.stackTraces = false := by
  first
    | (unfold Launch.stackTraces; rw [h]; decide +kernel)
    | (simp only [Launch.stackTraces, h]; decide +kernel)
    | (simp [Launch.stackTraces, h, flags0]; done)
