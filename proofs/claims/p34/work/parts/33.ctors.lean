/-- a shape in the making: the cells ahead of i as in base, the object i being made, behind it cells that are as F has them, n of all -/
def jv_FS (F base : jv_Sh) (i : Int) (d : jv_Kd) (n : Int) : jv_Sh := fun j => if j < i then base j else if j = i then some d else if j < n then F j else none
theorem jv_FS_i {F base : jv_Sh} {i : Int} {d : jv_Kd} {n : Int} : jv_FS F base i d n i = some d := by unfold jv_FS; rw [if_neg (by omega), if_pos rfl]
theorem jv_FS_in {F base : jv_Sh} {i : Int} {d : jv_Kd} {n j : Int} {k : jv_Kd} (hF : F j = some k) (h1 : i < j) (h2 : j < n) : jv_FS F base i d n j = some k := by unfold jv_FS; rw [if_neg (by omega), if_neg (by omega), if_pos h2]; exact hF
theorem jv_FS_push {F base : jv_Sh} {i : Int} {d K : jv_Kd} {n n' : Int} (hF : F n = some K) (hi : i < n) (hn : n' = n + 1) : ∀ j k, jv_FS F base i d n' j = some k → jv_su (jv_FS F base i d n) n K j = some k := by
  intro j k h
  subst hn
  unfold jv_FS at h
  unfold jv_su jv_FS
  by_cases h1 : j = n
  · subst h1
    rw [if_neg (by omega), if_neg (by omega), if_pos (by omega), hF] at h
    rw [if_pos rfl]; exact h
  · rw [if_neg h1]
    by_cases h2 : j < i
    · rw [if_pos h2] at h ⊢; exact h
    · rw [if_neg h2] at h ⊢
      by_cases h3 : j = i
      · rw [if_pos h3] at h ⊢; exact h
      · rw [if_neg h3] at h ⊢
        by_cases h4 : j < n + 1
        · rw [if_pos h4] at h
          rw [if_pos (by omega)]; exact h
        · rw [if_neg h4] at h; cases h
theorem jv_FS_set {F base : jv_Sh} {i : Int} {d d' : jv_Kd} {n : Int} : ∀ j k, jv_FS F base i d' n j = some k → jv_su (jv_FS F base i d n) i d' j = some k := by
  intro j k h
  unfold jv_FS at h
  unfold jv_su jv_FS
  by_cases h3 : j = i
  · rw [if_neg (by omega), if_pos h3] at h
    rw [if_pos h3]; exact h
  · rw [if_neg h3] at h ⊢
    rw [if_neg h3]; exact h
theorem jv_FS_open {F base : jv_Sh} {i : Int} {d d0 : jv_Kd} {n n' : Int} (hn : n' = n + 1) : ∀ j k, jv_FS F (jv_FS F base i d n) n d0 n' j = some k → jv_su (jv_FS F base i d n) n d0 j = some k := by
  intro j k h
  subst hn
  unfold jv_su
  by_cases h1 : j = n
  · subst h1
    rw [jv_FS_i] at h
    rw [if_pos rfl]; exact h
  · rw [if_neg h1]
    unfold jv_FS at h
    by_cases h2 : j < n
    · rw [if_pos h2] at h; exact h
    · rw [if_neg h2, if_neg h1, if_neg (by omega)] at h; cases h
theorem jv_FS_close {F base : jv_Sh} {i i' : Int} {d d' : jv_Kd} {n : Int} (hF : F i' = some d') (h1 : i < i') (h2 : i' < n) : ∀ j k, jv_FS F base i d n j = some k → jv_FS F (jv_FS F base i d i') i' d' n j = some k := by
  intro j k h
  unfold jv_FS at h ⊢
  by_cases a1 : j < i
  · rw [if_pos a1] at h
    rw [if_pos (by omega), if_pos a1]; exact h
  · rw [if_neg a1] at h
    by_cases a2 : j = i
    · rw [if_pos a2] at h
      rw [if_pos (by omega), if_neg a1, if_pos a2]; exact h
    · rw [if_neg a2] at h
      by_cases a3 : j < n
      · rw [if_pos a3] at h
        by_cases a4 : j < i'
        · rw [if_pos a4, if_neg a1, if_neg a2, if_pos a4]; exact h
        · rw [if_neg a4]
          by_cases a5 : j = i'
          · rw [if_pos a5]; subst a5; rw [hF] at h; exact h
          · rw [if_neg a5, if_pos a3]; exact h
      · rw [if_neg a3] at h; cases h
theorem ko_X0 : Cond.methodLink RX0 3 Lib.objectInit ∈ jv_tb := (jv_tb_in (jv_tm (k := 100) (by decide +kernel)) (by decide +kernel))
theorem ko_X1 : Cond.methodLink RX1 3 Lib.objectInit ∈ jv_tb := (jv_tb_in (jv_tm (k := 126) (by decide +kernel)) (by decide +kernel))
theorem ko_X2 : Cond.methodLink RX2 3 Lib.objectInit ∈ jv_tb := (jv_tb_in (jv_tm (k := 148) (by decide +kernel)) (by decide +kernel))
theorem ko_X3 : Cond.methodLink RX3 3 Lib.objectInit ∈ jv_tb := (jv_tb_in (jv_tm (k := 164) (by decide +kernel)) (by decide +kernel))
theorem ko_X4 : Cond.methodLink RX4 3 Lib.objectInit ∈ jv_tb := (jv_tb_in (jv_tm (k := 185) (by decide +kernel)) (by decide +kernel))
theorem kl_X4_9 : Cond.classLink RX4 9 "Clueyard$Progress" ∈ jv_tb := (jv_tb_in (jv_tm (k := 186) (by decide +kernel)) (by decide +kernel))
theorem kn_X4_11 : jv_KIN RX4 11 yX2_init "Clueyard" cX2_init 1 0 := ⟨jv_tm (k := 187) (by decide +kernel), (jv_tb_in (jv_tm (k := 146) (by decide +kernel)) (by decide +kernel)), (jv_tb_in (jv_tm (k := 8) (by decide +kernel)) (by decide +kernel)), (jv_tb_in (jv_tm (k := 147) (by decide +kernel)) (by decide +kernel)), rfl, by decide +kernel, by decide +kernel, by decide +kernel⟩
theorem ko_X5 : Cond.methodLink RX5 3 Lib.objectInit ∈ jv_tb := (jv_tb_in (jv_tm (k := 32) (by decide +kernel)) (by decide +kernel))
theorem ko_X6 : Cond.methodLink RX6 3 Lib.objectInit ∈ jv_tb := (jv_tb_in (jv_tm (k := 77) (by decide +kernel)) (by decide +kernel))
theorem ko_X7 : Cond.methodLink RX7 3 Lib.objectInit ∈ jv_tb := (jv_tb_in (jv_tm (k := 46) (by decide +kernel)) (by decide +kernel))
theorem ko_X8 : Cond.methodLink RX8 1 Lib.objectInit ∈ jv_tb := (jv_tb_in (jv_tm (k := 24) (by decide +kernel)) (by decide +kernel))
theorem kl_X8_7 : Cond.classLink RX8 7 "Clueyard$Spelled" ∈ jv_tb := (jv_tb_in (jv_tm (k := 27) (by decide +kernel)) (by decide +kernel))
theorem kn_X8_9 : jv_KIN RX8 9 yX5_init "Clueyard" cX5_init 1 0 := ⟨jv_tm (k := 29) (by decide +kernel), (jv_tb_in (jv_tm (k := 30) (by decide +kernel)) (by decide +kernel)), (jv_tb_in (jv_tm (k := 2) (by decide +kernel)) (by decide +kernel)), (jv_tb_in (jv_tm (k := 31) (by decide +kernel)) (by decide +kernel)), rfl, by decide +kernel, by decide +kernel, by decide +kernel⟩
theorem kl_X8_16 : Cond.classLink RX8 16 "Clueyard$Words" ∈ jv_tb := (jv_tb_in (jv_tm (k := 41) (by decide +kernel)) (by decide +kernel))
theorem kn_X8_18 : jv_KI RX8 18 yX7_init cX7_init 1 0 := ⟨(jv_tb_in (jv_tm (k := 43) (by decide +kernel)) (by decide +kernel)), (jv_tb_in (jv_tm (k := 44) (by decide +kernel)) (by decide +kernel)), (jv_tb_in (jv_tm (k := 3) (by decide +kernel)) (by decide +kernel)), (jv_tb_in (jv_tm (k := 45) (by decide +kernel)) (by decide +kernel)), rfl, by decide +kernel, by decide +kernel, by decide +kernel⟩
theorem kl_X8_23 : Cond.classLink RX8 23 "Clueyard$Square" ∈ jv_tb := (jv_tb_in (jv_tm (k := 72) (by decide +kernel)) (by decide +kernel))
theorem kn_X8_25 : jv_KI RX8 25 yX6_init cX6_init 1 0 := ⟨(jv_tb_in (jv_tm (k := 74) (by decide +kernel)) (by decide +kernel)), (jv_tb_in (jv_tm (k := 75) (by decide +kernel)) (by decide +kernel)), (jv_tb_in (jv_tm (k := 5) (by decide +kernel)) (by decide +kernel)), (jv_tb_in (jv_tm (k := 76) (by decide +kernel)) (by decide +kernel)), rfl, by decide +kernel, by decide +kernel, by decide +kernel⟩
theorem kl_X8_30 : Cond.classLink RX8 30 "Clueyard$Clues" ∈ jv_tb := (jv_tb_in (jv_tm (k := 95) (by decide +kernel)) (by decide +kernel))
theorem kn_X8_32 : jv_KIN RX8 32 yX0_init "Clueyard" cX0_init 1 0 := ⟨jv_tm (k := 97) (by decide +kernel), (jv_tb_in (jv_tm (k := 98) (by decide +kernel)) (by decide +kernel)), (jv_tb_in (jv_tm (k := 6) (by decide +kernel)) (by decide +kernel)), (jv_tb_in (jv_tm (k := 99) (by decide +kernel)) (by decide +kernel)), rfl, by decide +kernel, by decide +kernel, by decide +kernel⟩
theorem kl_X8_37 : Cond.classLink RX8 37 "Clueyard$Puzzle" ∈ jv_tb := (jv_tb_in (jv_tm (k := 117) (by decide +kernel)) (by decide +kernel))
theorem kl_X8_43 : Cond.classLink RX8 43 "Clueyard$Solver" ∈ jv_tb := (jv_tb_in (jv_tm (k := 119) (by decide +kernel)) (by decide +kernel))
theorem kl_X8_49 : Cond.classLink RX8 49 "Clueyard$Events" ∈ jv_tb := (jv_tb_in (jv_tm (k := 121) (by decide +kernel)) (by decide +kernel))
theorem kn_X8_51 : jv_KIN RX8 51 yX1_init "Clueyard" cX1_init 1 0 := ⟨jv_tm (k := 123) (by decide +kernel), (jv_tb_in (jv_tm (k := 124) (by decide +kernel)) (by decide +kernel)), (jv_tb_in (jv_tm (k := 7) (by decide +kernel)) (by decide +kernel)), (jv_tb_in (jv_tm (k := 125) (by decide +kernel)) (by decide +kernel)), rfl, by decide +kernel, by decide +kernel, by decide +kernel⟩
theorem kl_X8_56 : Cond.classLink RX8 56 "Clueyard$Progress" ∈ jv_tb := (jv_tb_in (jv_tm (k := 143) (by decide +kernel)) (by decide +kernel))
theorem kn_X8_58 : jv_KIN RX8 58 yX2_init "Clueyard" cX2_init 1 0 := ⟨jv_tm (k := 145) (by decide +kernel), (jv_tb_in (jv_tm (k := 146) (by decide +kernel)) (by decide +kernel)), (jv_tb_in (jv_tm (k := 8) (by decide +kernel)) (by decide +kernel)), (jv_tb_in (jv_tm (k := 147) (by decide +kernel)) (by decide +kernel)), rfl, by decide +kernel, by decide +kernel, by decide +kernel⟩
theorem kn_X8_67 : jv_KIN RX8 67 yX3_init "Clueyard" cX3_init 1 0 := ⟨jv_tm (k := 161) (by decide +kernel), (jv_tb_in (jv_tm (k := 162) (by decide +kernel)) (by decide +kernel)), (jv_tb_in (jv_tm (k := 9) (by decide +kernel)) (by decide +kernel)), (jv_tb_in (jv_tm (k := 163) (by decide +kernel)) (by decide +kernel)), rfl, by decide +kernel, by decide +kernel, by decide +kernel⟩
theorem kn_X8_68 : jv_KIN RX8 68 yX4_init "Clueyard" cX4_init 1 0 := ⟨jv_tm (k := 182) (by decide +kernel), (jv_tb_in (jv_tm (k := 183) (by decide +kernel)) (by decide +kernel)), (jv_tb_in (jv_tm (k := 10) (by decide +kernel)) (by decide +kernel)), (jv_tb_in (jv_tm (k := 184) (by decide +kernel)) (by decide +kernel)), rfl, by decide +kernel, by decide +kernel, by decide +kernel⟩
theorem kq_X0 : Cond.instantiable RX0 5 ∈ jv_tb := (jv_tb_in (jv_tm (k := 96) (by decide +kernel)) (by decide +kernel))
theorem kj_X0 : Cond.initialized RX0 ∈ jv_tb := (jv_tb_in (jv_tm (k := 6) (by decide +kernel)) (by decide +kernel))
theorem kq_X1 : Cond.instantiable RX1 5 ∈ jv_tb := (jv_tb_in (jv_tm (k := 122) (by decide +kernel)) (by decide +kernel))
theorem kj_X1 : Cond.initialized RX1 ∈ jv_tb := (jv_tb_in (jv_tm (k := 7) (by decide +kernel)) (by decide +kernel))
theorem kq_X2 : Cond.instantiable RX2 3 ∈ jv_tb := (jv_tb_in (jv_tm (k := 144) (by decide +kernel)) (by decide +kernel))
theorem kj_X2 : Cond.initialized RX2 ∈ jv_tb := (jv_tb_in (jv_tm (k := 8) (by decide +kernel)) (by decide +kernel))
theorem kq_X3 : Cond.instantiable RX3 5 ∈ jv_tb := (jv_tb_in (jv_tm (k := 160) (by decide +kernel)) (by decide +kernel))
theorem kj_X3 : Cond.initialized RX3 ∈ jv_tb := (jv_tb_in (jv_tm (k := 9) (by decide +kernel)) (by decide +kernel))
theorem kq_X4 : Cond.instantiable RX4 4 ∈ jv_tb := (jv_tb_in (jv_tm (k := 181) (by decide +kernel)) (by decide +kernel))
theorem kj_X4 : Cond.initialized RX4 ∈ jv_tb := (jv_tb_in (jv_tm (k := 10) (by decide +kernel)) (by decide +kernel))
theorem kq_X5 : Cond.instantiable RX5 2 ∈ jv_tb := (jv_tb_in (jv_tm (k := 28) (by decide +kernel)) (by decide +kernel))
theorem kj_X5 : Cond.initialized RX5 ∈ jv_tb := (jv_tb_in (jv_tm (k := 2) (by decide +kernel)) (by decide +kernel))
theorem kq_X6 : Cond.instantiable RX6 5 ∈ jv_tb := (jv_tb_in (jv_tm (k := 73) (by decide +kernel)) (by decide +kernel))
theorem kj_X6 : Cond.initialized RX6 ∈ jv_tb := (jv_tb_in (jv_tm (k := 5) (by decide +kernel)) (by decide +kernel))
theorem kq_X7 : Cond.instantiable RX7 7 ∈ jv_tb := (jv_tb_in (jv_tm (k := 42) (by decide +kernel)) (by decide +kernel))
theorem kj_X7 : Cond.initialized RX7 ∈ jv_tb := (jv_tb_in (jv_tm (k := 3) (by decide +kernel)) (by decide +kernel))
theorem kq_X8 : Cond.instantiable RX8 12 ∈ jv_tb := (jv_tb_in (jv_tm (k := 20) (by decide +kernel)) (by decide +kernel))
theorem kj_X8 : Cond.initialized RX8 ∈ jv_tb := (jv_tb_in (jv_tm (k := 1) (by decide +kernel)) (by decide +kernel))
theorem ko_i : Cond.instanceMethod Lib.objectInit ∈ jv_tb := (jv_tb_in (jv_tm (k := 25) (by decide +kernel)) (by decide +kernel))
theorem ko_c : Cond.code Lib.objectInit ⟨#[0xb1]⟩ 1 none ∈ jv_tb := (jv_tb_in (jv_tm (k := 26) (by decide +kernel)) (by decide +kernel))
theorem ka_int : Cond.arrayClass .int ∈ jv_tb := (jv_tb_in (jv_tm (k := 40) (by decide +kernel)) (by decide +kernel))
theorem ka_boolean : Cond.arrayClass .boolean ∈ jv_tb := (jv_tb_in (jv_tm (k := 159) (by decide +kernel)) (by decide +kernel))
theorem ka_byte : Cond.arrayClass .byte ∈ jv_tb := (jv_tb_in (jv_tm (k := 322) (by decide +kernel)) (by decide +kernel))
theorem kv_X3 : Cond.arrayOver (.object RX3) ∈ lw_tbl := jv_tm (k := 118) (by decide +kernel)
theorem kv_X4 : Cond.arrayOver (.object RX4) ∈ lw_tbl := jv_tm (k := 120) (by decide +kernel)
set_option maxHeartbeats 4000000 in
set_option maxRecDepth 100000 in
theorem MI_X0 {l : Launch} {s0 : State} {b0 : Addr} {D : va_G} {ids : Nat → ClassId} {g : jv_Mem} {F base : jv_Sh} {i : Nat} (hF1 : F ((i + 1 : Nat) : Int) = some (.inl (0, 60, 0))) (hF2 : F ((i + 2 : Nat) : Int) = some (.inl (0, 60, 0))) (hF3 : F ((i + 3 : Nat) : Int) = some (.inl (0, 60, 0))) (hF4 : F ((i + 4 : Nat) : Int) = some (.inl (0, 6, 0))) (hz : ∀ a b : Int, ((i : Nat) : Int) < a → g a b = 0) : jv_M l s0 b0 D ids yX0_init cX0_init 1 none 1 12 4 186 (some (i + 1)) (jv_FS F base ((i : Nat) : Int) (.inr (0, [none, none, none, none, some none])) ((i + 1 : Nat) : Int)) g [.ref (s0.heap.size + ((i : Nat) : Int).toNat)] (some (i + 5)) (jv_FS F base ((i : Nat) : Int) (.inr (0, [some (some ((i + 1 : Nat) : Int)), some (some ((i + 2 : Nat) : Int)), some (some ((i + 3 : Nat) : Int)), some (some ((i + 4 : Nat) : Int)), some none])) ((i + 5 : Nat) : Int)) (fun v g' => v = none ∧ g' = g) := by
  refine jv_M.of (by decide +kernel) rfl rfl (fun p e s m args below meth c C hml hr hlk hnm => ?_)
  replace C : jv_C p s m args c cX0_init RX0 s0 b0 D ids := C
  show jv_V p l e (jv_rm 1 12 4 186) s m args below meth c 0 0 (jv_ZM below s0 D ids (some (i + 5)) (jv_FS F base ((i : Nat) : Int) (.inr (0, [some (some ((i + 1 : Nat) : Int)), some (some ((i + 2 : Nat) : Int)), some (some ((i + 3 : Nat) : Int)), some (some ((i + 4 : Nat) : Int)), some none])) ((i + 5 : Nat) : Int)) (fun v g' => v = none ∧ g' = g) args s 4 186) s0 D ids (some (i + 1)) (jv_FS F base ((i : Nat) : Int) (.inr (0, [none, none, none, none, some none])) ((i + 1 : Nat) : Int)) g 0 [some (.ref (s0.heap.size + ((i : Nat) : Int).toNat))] []
  refine jv_aload_n C dX0_init_0 rfl ?_
  refine jv_ogi C ko_X0 ko_i ko_c ⟨rfl, rfl⟩ dX0_init_1 ?_
  refine jv_aload_n C dX0_init_4 rfl ?_
  refine jv_bipush C dX0_init_5 (by decide +kernel) ?_
  refine jv_newi (n := i + 1) (cn := 0) (N := 60) (at' := .int) C rfl (by decide) ka_int (fun b => hz _ b (by omega)) rfl ⟨rfl, rfl⟩ dX0_init_7 ?_
  refine jv_shw (sh' := (jv_FS F base ((i : Nat) : Int) (.inr (0, [none, none, none, none, some none])) ((i + 2 : Nat) : Int))) (jv_FS_push hF1 (by omega) (by omega)) ?_
  refine jv_putr (t := ((i + 1 : Nat) : Int)) C kf_X0_9 hnm jv_FS_i (Nat.le_of_ble_eq_true rfl) ⟨rfl, rfl⟩ dX0_init_9 ?_
  refine jv_shw (sh' := (jv_FS F base ((i : Nat) : Int) (.inr (0, [some (some ((i + 1 : Nat) : Int)), none, none, none, some none])) ((i + 2 : Nat) : Int))) jv_FS_set ?_
  refine jv_aload_n C dX0_init_12 rfl ?_
  refine jv_bipush C dX0_init_13 (by decide +kernel) ?_
  refine jv_newi (n := i + 2) (cn := 0) (N := 60) (at' := .int) C rfl (by decide) ka_int (fun b => hz _ b (by omega)) rfl ⟨rfl, rfl⟩ dX0_init_15 ?_
  refine jv_shw (sh' := (jv_FS F base ((i : Nat) : Int) (.inr (0, [some (some ((i + 1 : Nat) : Int)), none, none, none, some none])) ((i + 3 : Nat) : Int))) (jv_FS_push hF2 (by omega) (by omega)) ?_
  refine jv_putr (t := ((i + 2 : Nat) : Int)) C kf_X0_15 hnm jv_FS_i (Nat.le_of_ble_eq_true rfl) ⟨rfl, rfl⟩ dX0_init_17 ?_
  refine jv_shw (sh' := (jv_FS F base ((i : Nat) : Int) (.inr (0, [some (some ((i + 1 : Nat) : Int)), some (some ((i + 2 : Nat) : Int)), none, none, some none])) ((i + 3 : Nat) : Int))) jv_FS_set ?_
  refine jv_aload_n C dX0_init_20 rfl ?_
  refine jv_bipush C dX0_init_21 (by decide +kernel) ?_
  refine jv_newi (n := i + 3) (cn := 0) (N := 60) (at' := .int) C rfl (by decide) ka_int (fun b => hz _ b (by omega)) rfl ⟨rfl, rfl⟩ dX0_init_23 ?_
  refine jv_shw (sh' := (jv_FS F base ((i : Nat) : Int) (.inr (0, [some (some ((i + 1 : Nat) : Int)), some (some ((i + 2 : Nat) : Int)), none, none, some none])) ((i + 4 : Nat) : Int))) (jv_FS_push hF3 (by omega) (by omega)) ?_
  refine jv_putr (t := ((i + 3 : Nat) : Int)) C kf_X0_18 hnm jv_FS_i (Nat.le_of_ble_eq_true rfl) ⟨rfl, rfl⟩ dX0_init_25 ?_
  refine jv_shw (sh' := (jv_FS F base ((i : Nat) : Int) (.inr (0, [some (some ((i + 1 : Nat) : Int)), some (some ((i + 2 : Nat) : Int)), some (some ((i + 3 : Nat) : Int)), none, some none])) ((i + 4 : Nat) : Int))) jv_FS_set ?_
  refine jv_aload_n C dX0_init_28 rfl ?_
  refine jv_bipush C dX0_init_29 (by decide +kernel) ?_
  refine jv_newi (n := i + 4) (cn := 0) (N := 6) (at' := .int) C rfl (by decide) ka_int (fun b => hz _ b (by omega)) rfl ⟨rfl, rfl⟩ dX0_init_31 ?_
  refine jv_shw (sh' := (jv_FS F base ((i : Nat) : Int) (.inr (0, [some (some ((i + 1 : Nat) : Int)), some (some ((i + 2 : Nat) : Int)), some (some ((i + 3 : Nat) : Int)), none, some none])) ((i + 5 : Nat) : Int))) (jv_FS_push hF4 (by omega) (by omega)) ?_
  refine jv_putr (t := ((i + 4 : Nat) : Int)) C kf_X0_21 hnm jv_FS_i (Nat.le_of_ble_eq_true rfl) ⟨rfl, rfl⟩ dX0_init_33 ?_
  refine jv_shw (sh' := (jv_FS F base ((i : Nat) : Int) (.inr (0, [some (some ((i + 1 : Nat) : Int)), some (some ((i + 2 : Nat) : Int)), some (some ((i + 3 : Nat) : Int)), some (some ((i + 4 : Nat) : Int)), some none])) ((i + 5 : Nat) : Int))) jv_FS_set ?_
  exact jv_vret C hr hlk ⟨rfl, rfl⟩ dX0_init_36 ⟨rfl, rfl⟩
set_option maxHeartbeats 4000000 in
set_option maxRecDepth 100000 in
theorem MI_X1 {l : Launch} {s0 : State} {b0 : Addr} {D : va_G} {ids : Nat → ClassId} {g : jv_Mem} {F base : jv_Sh} {i : Nat} (hF1 : F ((i + 1 : Nat) : Int) = some (.inl (0, 1200, 0))) (hF2 : F ((i + 2 : Nat) : Int) = some (.inl (0, 1200, 0))) (hF3 : F ((i + 3 : Nat) : Int) = some (.inl (0, 1200, 0))) (hF4 : F ((i + 4 : Nat) : Int) = some (.inl (0, 1200, 0))) (hz : ∀ a b : Int, ((i : Nat) : Int) < a → g a b = 0) : jv_M l s0 b0 D ids yX1_init cX1_init 1 none 1 12 4 4800 (some (i + 1)) (jv_FS F base ((i : Nat) : Int) (.inr (1, [none, none, none, none, some none])) ((i + 1 : Nat) : Int)) g [.ref (s0.heap.size + ((i : Nat) : Int).toNat)] (some (i + 5)) (jv_FS F base ((i : Nat) : Int) (.inr (1, [some (some ((i + 1 : Nat) : Int)), some (some ((i + 2 : Nat) : Int)), some (some ((i + 3 : Nat) : Int)), some (some ((i + 4 : Nat) : Int)), some none])) ((i + 5 : Nat) : Int)) (fun v g' => v = none ∧ g' = g) := by
  refine jv_M.of (by decide +kernel) rfl rfl (fun p e s m args below meth c C hml hr hlk hnm => ?_)
  replace C : jv_C p s m args c cX1_init RX1 s0 b0 D ids := C
  show jv_V p l e (jv_rm 1 12 4 4800) s m args below meth c 0 0 (jv_ZM below s0 D ids (some (i + 5)) (jv_FS F base ((i : Nat) : Int) (.inr (1, [some (some ((i + 1 : Nat) : Int)), some (some ((i + 2 : Nat) : Int)), some (some ((i + 3 : Nat) : Int)), some (some ((i + 4 : Nat) : Int)), some none])) ((i + 5 : Nat) : Int)) (fun v g' => v = none ∧ g' = g) args s 4 4800) s0 D ids (some (i + 1)) (jv_FS F base ((i : Nat) : Int) (.inr (1, [none, none, none, none, some none])) ((i + 1 : Nat) : Int)) g 0 [some (.ref (s0.heap.size + ((i : Nat) : Int).toNat))] []
  refine jv_aload_n C dX1_init_0 rfl ?_
  refine jv_ogi C ko_X1 ko_i ko_c ⟨rfl, rfl⟩ dX1_init_1 ?_
  refine jv_aload_n C dX1_init_4 rfl ?_
  refine jv_sipush C dX1_init_5 (by decide +kernel) ?_
  refine jv_newi (n := i + 1) (cn := 0) (N := 1200) (at' := .int) C rfl (by decide) ka_int (fun b => hz _ b (by omega)) rfl ⟨rfl, rfl⟩ dX1_init_8 ?_
  refine jv_shw (sh' := (jv_FS F base ((i : Nat) : Int) (.inr (1, [none, none, none, none, some none])) ((i + 2 : Nat) : Int))) (jv_FS_push hF1 (by omega) (by omega)) ?_
  refine jv_putr (t := ((i + 1 : Nat) : Int)) C kf_X1_9 hnm jv_FS_i (Nat.le_of_ble_eq_true rfl) ⟨rfl, rfl⟩ dX1_init_10 ?_
  refine jv_shw (sh' := (jv_FS F base ((i : Nat) : Int) (.inr (1, [some (some ((i + 1 : Nat) : Int)), none, none, none, some none])) ((i + 2 : Nat) : Int))) jv_FS_set ?_
  refine jv_aload_n C dX1_init_13 rfl ?_
  refine jv_sipush C dX1_init_14 (by decide +kernel) ?_
  refine jv_newi (n := i + 2) (cn := 0) (N := 1200) (at' := .int) C rfl (by decide) ka_int (fun b => hz _ b (by omega)) rfl ⟨rfl, rfl⟩ dX1_init_17 ?_
  refine jv_shw (sh' := (jv_FS F base ((i : Nat) : Int) (.inr (1, [some (some ((i + 1 : Nat) : Int)), none, none, none, some none])) ((i + 3 : Nat) : Int))) (jv_FS_push hF2 (by omega) (by omega)) ?_
  refine jv_putr (t := ((i + 2 : Nat) : Int)) C kf_X1_15 hnm jv_FS_i (Nat.le_of_ble_eq_true rfl) ⟨rfl, rfl⟩ dX1_init_19 ?_
  refine jv_shw (sh' := (jv_FS F base ((i : Nat) : Int) (.inr (1, [some (some ((i + 1 : Nat) : Int)), some (some ((i + 2 : Nat) : Int)), none, none, some none])) ((i + 3 : Nat) : Int))) jv_FS_set ?_
  refine jv_aload_n C dX1_init_22 rfl ?_
  refine jv_sipush C dX1_init_23 (by decide +kernel) ?_
  refine jv_newi (n := i + 3) (cn := 0) (N := 1200) (at' := .int) C rfl (by decide) ka_int (fun b => hz _ b (by omega)) rfl ⟨rfl, rfl⟩ dX1_init_26 ?_
  refine jv_shw (sh' := (jv_FS F base ((i : Nat) : Int) (.inr (1, [some (some ((i + 1 : Nat) : Int)), some (some ((i + 2 : Nat) : Int)), none, none, some none])) ((i + 4 : Nat) : Int))) (jv_FS_push hF3 (by omega) (by omega)) ?_
  refine jv_putr (t := ((i + 3 : Nat) : Int)) C kf_X1_18 hnm jv_FS_i (Nat.le_of_ble_eq_true rfl) ⟨rfl, rfl⟩ dX1_init_28 ?_
  refine jv_shw (sh' := (jv_FS F base ((i : Nat) : Int) (.inr (1, [some (some ((i + 1 : Nat) : Int)), some (some ((i + 2 : Nat) : Int)), some (some ((i + 3 : Nat) : Int)), none, some none])) ((i + 4 : Nat) : Int))) jv_FS_set ?_
  refine jv_aload_n C dX1_init_31 rfl ?_
  refine jv_sipush C dX1_init_32 (by decide +kernel) ?_
  refine jv_newi (n := i + 4) (cn := 0) (N := 1200) (at' := .int) C rfl (by decide) ka_int (fun b => hz _ b (by omega)) rfl ⟨rfl, rfl⟩ dX1_init_35 ?_
  refine jv_shw (sh' := (jv_FS F base ((i : Nat) : Int) (.inr (1, [some (some ((i + 1 : Nat) : Int)), some (some ((i + 2 : Nat) : Int)), some (some ((i + 3 : Nat) : Int)), none, some none])) ((i + 5 : Nat) : Int))) (jv_FS_push hF4 (by omega) (by omega)) ?_
  refine jv_putr (t := ((i + 4 : Nat) : Int)) C kf_X1_21 hnm jv_FS_i (Nat.le_of_ble_eq_true rfl) ⟨rfl, rfl⟩ dX1_init_37 ?_
  refine jv_shw (sh' := (jv_FS F base ((i : Nat) : Int) (.inr (1, [some (some ((i + 1 : Nat) : Int)), some (some ((i + 2 : Nat) : Int)), some (some ((i + 3 : Nat) : Int)), some (some ((i + 4 : Nat) : Int)), some none])) ((i + 5 : Nat) : Int))) jv_FS_set ?_
  exact jv_vret C hr hlk ⟨rfl, rfl⟩ dX1_init_40 ⟨rfl, rfl⟩
set_option maxHeartbeats 4000000 in
set_option maxRecDepth 100000 in
theorem MI_X2 {l : Launch} {s0 : State} {b0 : Addr} {D : va_G} {ids : Nat → ClassId} {g : jv_Mem} {F base : jv_Sh} {i : Nat} (hF1 : F ((i + 1 : Nat) : Int) = some (.inl (0, 180, 0))) (hF2 : F ((i + 2 : Nat) : Int) = some (.inl (1, 1252, 0))) (hz : ∀ a b : Int, ((i : Nat) : Int) < a → g a b = 0) : jv_M l s0 b0 D ids yX2_init cX2_init 1 none 1 12 2 1432 (some (i + 1)) (jv_FS F base ((i : Nat) : Int) (.inr (2, [none, none, some none])) ((i + 1 : Nat) : Int)) g [.ref (s0.heap.size + ((i : Nat) : Int).toNat)] (some (i + 3)) (jv_FS F base ((i : Nat) : Int) (.inr (2, [some (some ((i + 1 : Nat) : Int)), some (some ((i + 2 : Nat) : Int)), some none])) ((i + 3 : Nat) : Int)) (fun v g' => v = none ∧ g' = g) := by
  refine jv_M.of (by decide +kernel) rfl rfl (fun p e s m args below meth c C hml hr hlk hnm => ?_)
  replace C : jv_C p s m args c cX2_init RX2 s0 b0 D ids := C
  show jv_V p l e (jv_rm 1 12 2 1432) s m args below meth c 0 0 (jv_ZM below s0 D ids (some (i + 3)) (jv_FS F base ((i : Nat) : Int) (.inr (2, [some (some ((i + 1 : Nat) : Int)), some (some ((i + 2 : Nat) : Int)), some none])) ((i + 3 : Nat) : Int)) (fun v g' => v = none ∧ g' = g) args s 2 1432) s0 D ids (some (i + 1)) (jv_FS F base ((i : Nat) : Int) (.inr (2, [none, none, some none])) ((i + 1 : Nat) : Int)) g 0 [some (.ref (s0.heap.size + ((i : Nat) : Int).toNat))] []
  refine jv_aload_n C dX2_init_0 rfl ?_
  refine jv_ogi C ko_X2 ko_i ko_c ⟨rfl, rfl⟩ dX2_init_1 ?_
  refine jv_aload_n C dX2_init_4 rfl ?_
  refine jv_sipush C dX2_init_5 (by decide +kernel) ?_
  refine jv_newi (n := i + 1) (cn := 0) (N := 180) (at' := .int) C rfl (by decide) ka_int (fun b => hz _ b (by omega)) rfl ⟨rfl, rfl⟩ dX2_init_8 ?_
  refine jv_shw (sh' := (jv_FS F base ((i : Nat) : Int) (.inr (2, [none, none, some none])) ((i + 2 : Nat) : Int))) (jv_FS_push hF1 (by omega) (by omega)) ?_
  refine jv_putr (t := ((i + 1 : Nat) : Int)) C kf_X2_9 hnm jv_FS_i (Nat.le_of_ble_eq_true rfl) ⟨rfl, rfl⟩ dX2_init_10 ?_
  refine jv_shw (sh' := (jv_FS F base ((i : Nat) : Int) (.inr (2, [some (some ((i + 1 : Nat) : Int)), none, some none])) ((i + 2 : Nat) : Int))) jv_FS_set ?_
  refine jv_aload_n C dX2_init_13 rfl ?_
  refine jv_sipush C dX2_init_14 (by decide +kernel) ?_
  refine jv_newi (n := i + 2) (cn := 1) (N := 1252) (at' := .boolean) C rfl (by decide) ka_boolean (fun b => hz _ b (by omega)) rfl ⟨rfl, rfl⟩ dX2_init_17 ?_
  refine jv_shw (sh' := (jv_FS F base ((i : Nat) : Int) (.inr (2, [some (some ((i + 1 : Nat) : Int)), none, some none])) ((i + 3 : Nat) : Int))) (jv_FS_push hF2 (by omega) (by omega)) ?_
  refine jv_putr (t := ((i + 2 : Nat) : Int)) C kf_X2_15 hnm jv_FS_i (Nat.le_of_ble_eq_true rfl) ⟨rfl, rfl⟩ dX2_init_19 ?_
  refine jv_shw (sh' := (jv_FS F base ((i : Nat) : Int) (.inr (2, [some (some ((i + 1 : Nat) : Int)), some (some ((i + 2 : Nat) : Int)), some none])) ((i + 3 : Nat) : Int))) jv_FS_set ?_
  exact jv_vret C hr hlk ⟨rfl, rfl⟩ dX2_init_22 ⟨rfl, rfl⟩
set_option maxHeartbeats 4000000 in
set_option maxRecDepth 100000 in
theorem MI_X3 {l : Launch} {s0 : State} {b0 : Addr} {D : va_G} {ids : Nat → ClassId} {g : jv_Mem} {F base : jv_Sh} {i : Nat} (hF1 : F ((i + 1 : Nat) : Int) = some (.inl (0, 9, 0))) (hF2 : F ((i + 2 : Nat) : Int) = some (.inl (0, 6, 0))) (hz : ∀ a b : Int, ((i : Nat) : Int) < a → g a b = 0) : jv_M l s0 b0 D ids yX3_init cX3_init 1 none 1 12 2 15 (some (i + 1)) (jv_FS F base ((i : Nat) : Int) (.inr (3, [none, none, some none, some none, some none])) ((i + 1 : Nat) : Int)) g [.ref (s0.heap.size + ((i : Nat) : Int).toNat)] (some (i + 3)) (jv_FS F base ((i : Nat) : Int) (.inr (3, [some (some ((i + 1 : Nat) : Int)), some (some ((i + 2 : Nat) : Int)), some none, some none, some none])) ((i + 3 : Nat) : Int)) (fun v g' => v = none ∧ g' = g) := by
  refine jv_M.of (by decide +kernel) rfl rfl (fun p e s m args below meth c C hml hr hlk hnm => ?_)
  replace C : jv_C p s m args c cX3_init RX3 s0 b0 D ids := C
  show jv_V p l e (jv_rm 1 12 2 15) s m args below meth c 0 0 (jv_ZM below s0 D ids (some (i + 3)) (jv_FS F base ((i : Nat) : Int) (.inr (3, [some (some ((i + 1 : Nat) : Int)), some (some ((i + 2 : Nat) : Int)), some none, some none, some none])) ((i + 3 : Nat) : Int)) (fun v g' => v = none ∧ g' = g) args s 2 15) s0 D ids (some (i + 1)) (jv_FS F base ((i : Nat) : Int) (.inr (3, [none, none, some none, some none, some none])) ((i + 1 : Nat) : Int)) g 0 [some (.ref (s0.heap.size + ((i : Nat) : Int).toNat))] []
  refine jv_aload_n C dX3_init_0 rfl ?_
  refine jv_ogi C ko_X3 ko_i ko_c ⟨rfl, rfl⟩ dX3_init_1 ?_
  refine jv_aload_n C dX3_init_4 rfl ?_
  refine jv_bipush C dX3_init_5 (by decide +kernel) ?_
  refine jv_newi (n := i + 1) (cn := 0) (N := 9) (at' := .int) C rfl (by decide) ka_int (fun b => hz _ b (by omega)) rfl ⟨rfl, rfl⟩ dX3_init_7 ?_
  refine jv_shw (sh' := (jv_FS F base ((i : Nat) : Int) (.inr (3, [none, none, some none, some none, some none])) ((i + 2 : Nat) : Int))) (jv_FS_push hF1 (by omega) (by omega)) ?_
  refine jv_putr (t := ((i + 1 : Nat) : Int)) C kf_X3_9 hnm jv_FS_i (Nat.le_of_ble_eq_true rfl) ⟨rfl, rfl⟩ dX3_init_9 ?_
  refine jv_shw (sh' := (jv_FS F base ((i : Nat) : Int) (.inr (3, [some (some ((i + 1 : Nat) : Int)), none, some none, some none, some none])) ((i + 2 : Nat) : Int))) jv_FS_set ?_
  refine jv_aload_n C dX3_init_12 rfl ?_
  refine jv_bipush C dX3_init_13 (by decide +kernel) ?_
  refine jv_newi (n := i + 2) (cn := 0) (N := 6) (at' := .int) C rfl (by decide) ka_int (fun b => hz _ b (by omega)) rfl ⟨rfl, rfl⟩ dX3_init_15 ?_
  refine jv_shw (sh' := (jv_FS F base ((i : Nat) : Int) (.inr (3, [some (some ((i + 1 : Nat) : Int)), none, some none, some none, some none])) ((i + 3 : Nat) : Int))) (jv_FS_push hF2 (by omega) (by omega)) ?_
  refine jv_putr (t := ((i + 2 : Nat) : Int)) C kf_X3_15 hnm jv_FS_i (Nat.le_of_ble_eq_true rfl) ⟨rfl, rfl⟩ dX3_init_17 ?_
  refine jv_shw (sh' := (jv_FS F base ((i : Nat) : Int) (.inr (3, [some (some ((i + 1 : Nat) : Int)), some (some ((i + 2 : Nat) : Int)), some none, some none, some none])) ((i + 3 : Nat) : Int))) jv_FS_set ?_
  exact jv_vret C hr hlk ⟨rfl, rfl⟩ dX3_init_20 ⟨rfl, rfl⟩
set_option maxHeartbeats 4000000 in
set_option maxRecDepth 100000 in
theorem MI_X5 {l : Launch} {s0 : State} {b0 : Addr} {D : va_G} {ids : Nat → ClassId} {g : jv_Mem} {F base : jv_Sh} {i : Nat} (hF1 : F ((i + 1 : Nat) : Int) = some (.inl (0, 3, 0))) (hz : ∀ a b : Int, ((i : Nat) : Int) < a → g a b = 0) : jv_M l s0 b0 D ids yX5_init cX5_init 1 none 1 12 1 3 (some (i + 1)) (jv_FS F base ((i : Nat) : Int) (.inr (5, [none, some none])) ((i + 1 : Nat) : Int)) g [.ref (s0.heap.size + ((i : Nat) : Int).toNat)] (some (i + 2)) (jv_FS F base ((i : Nat) : Int) (.inr (5, [some (some ((i + 1 : Nat) : Int)), some none])) ((i + 2 : Nat) : Int)) (fun v g' => v = none ∧ g' = g) := by
  refine jv_M.of (by decide +kernel) rfl rfl (fun p e s m args below meth c C hml hr hlk hnm => ?_)
  replace C : jv_C p s m args c cX5_init RX5 s0 b0 D ids := C
  show jv_V p l e (jv_rm 1 12 1 3) s m args below meth c 0 0 (jv_ZM below s0 D ids (some (i + 2)) (jv_FS F base ((i : Nat) : Int) (.inr (5, [some (some ((i + 1 : Nat) : Int)), some none])) ((i + 2 : Nat) : Int)) (fun v g' => v = none ∧ g' = g) args s 1 3) s0 D ids (some (i + 1)) (jv_FS F base ((i : Nat) : Int) (.inr (5, [none, some none])) ((i + 1 : Nat) : Int)) g 0 [some (.ref (s0.heap.size + ((i : Nat) : Int).toNat))] []
  refine jv_aload_n C dX5_init_0 rfl ?_
  refine jv_ogi C ko_X5 ko_i ko_c ⟨rfl, rfl⟩ dX5_init_1 ?_
  refine jv_aload_n C dX5_init_4 rfl ?_
  refine jv_const C dX5_init_5 ?_
  refine jv_newi (n := i + 1) (cn := 0) (N := 3) (at' := .int) C rfl (by decide) ka_int (fun b => hz _ b (by omega)) rfl ⟨rfl, rfl⟩ dX5_init_6 ?_
  refine jv_shw (sh' := (jv_FS F base ((i : Nat) : Int) (.inr (5, [none, some none])) ((i + 2 : Nat) : Int))) (jv_FS_push hF1 (by omega) (by omega)) ?_
  refine jv_putr (t := ((i + 1 : Nat) : Int)) C kf_X5_9 hnm jv_FS_i (Nat.le_of_ble_eq_true rfl) ⟨rfl, rfl⟩ dX5_init_8 ?_
  refine jv_shw (sh' := (jv_FS F base ((i : Nat) : Int) (.inr (5, [some (some ((i + 1 : Nat) : Int)), some none])) ((i + 2 : Nat) : Int))) jv_FS_set ?_
  exact jv_vret C hr hlk ⟨rfl, rfl⟩ dX5_init_11 ⟨rfl, rfl⟩
set_option maxHeartbeats 4000000 in
set_option maxRecDepth 100000 in
theorem MI_X6 {l : Launch} {s0 : State} {b0 : Addr} {D : va_G} {ids : Nat → ClassId} {g : jv_Mem} {F base : jv_Sh} {i : Nat} (hF1 : F ((i + 1 : Nat) : Int) = some (.inl (0, 9, 0))) (hF2 : F ((i + 2 : Nat) : Int) = some (.inl (0, 3, 0))) (hF3 : F ((i + 3 : Nat) : Int) = some (.inl (0, 3, 0))) (hz : ∀ a b : Int, ((i : Nat) : Int) < a → g a b = 0) : jv_M l s0 b0 D ids yX6_init cX6_init 1 none 1 23 3 15 (some (i + 1)) (jv_FS F base ((i : Nat) : Int) (.inr (6, [none, none, none, some none, some none])) ((i + 1 : Nat) : Int)) g [.ref (s0.heap.size + ((i : Nat) : Int).toNat)] (some (i + 4)) (jv_FS F base ((i : Nat) : Int) (.inr (6, [some (some ((i + 1 : Nat) : Int)), some (some ((i + 2 : Nat) : Int)), some (some ((i + 3 : Nat) : Int)), some none, some none])) ((i + 4 : Nat) : Int)) (fun v g' => v = none ∧ g' = (jv_fill g ((i + 1 : Nat) : Int) 9 (-1))) := by
  refine jv_M.of (by decide +kernel) rfl rfl (fun p e s m args below meth c C hml hr hlk hnm => ?_)
  replace C : jv_C p s m args c cX6_init RX6 s0 b0 D ids := C
  show jv_V p l e (jv_rm 1 23 3 15) s m args below meth c 0 0 (jv_ZM below s0 D ids (some (i + 4)) (jv_FS F base ((i : Nat) : Int) (.inr (6, [some (some ((i + 1 : Nat) : Int)), some (some ((i + 2 : Nat) : Int)), some (some ((i + 3 : Nat) : Int)), some none, some none])) ((i + 4 : Nat) : Int)) (fun v g' => v = none ∧ g' = (jv_fill g ((i + 1 : Nat) : Int) 9 (-1))) args s 3 15) s0 D ids (some (i + 1)) (jv_FS F base ((i : Nat) : Int) (.inr (6, [none, none, none, some none, some none])) ((i + 1 : Nat) : Int)) g 0 [some (.ref (s0.heap.size + ((i : Nat) : Int).toNat))] []
  refine jv_aload_n C dX6_init_0 rfl ?_
  refine jv_ogi C ko_X6 ko_i ko_c ⟨rfl, rfl⟩ dX6_init_1 ?_
  refine jv_aload_n C dX6_init_4 rfl ?_
  refine jv_bipush C dX6_init_5 (by decide +kernel) ?_
  refine jv_newi (n := i + 1) (cn := 0) (N := 9) (at' := .int) C rfl (by decide) ka_int (fun b => hz _ b (by omega)) rfl ⟨rfl, rfl⟩ dX6_init_7 ?_
  refine jv_shw (sh' := (jv_FS F base ((i : Nat) : Int) (.inr (6, [none, none, none, some none, some none])) ((i + 2 : Nat) : Int))) (jv_FS_push hF1 (by omega) (by omega)) ?_
  refine jv_putr (t := ((i + 1 : Nat) : Int)) C kf_X6_9 hnm jv_FS_i (Nat.le_of_ble_eq_true rfl) ⟨rfl, rfl⟩ dX6_init_9 ?_
  refine jv_shw (sh' := (jv_FS F base ((i : Nat) : Int) (.inr (6, [some (some ((i + 1 : Nat) : Int)), none, none, some none, some none])) ((i + 2 : Nat) : Int))) jv_FS_set ?_
  refine jv_aload_n C dX6_init_12 rfl ?_
  refine jv_const C dX6_init_13 ?_
  refine jv_newi (n := i + 2) (cn := 0) (N := 3) (at' := .int) C rfl (by decide) ka_int (fun b => hz _ b (by omega)) rfl ⟨rfl, rfl⟩ dX6_init_14 ?_
  refine jv_shw (sh' := (jv_FS F base ((i : Nat) : Int) (.inr (6, [some (some ((i + 1 : Nat) : Int)), none, none, some none, some none])) ((i + 3 : Nat) : Int))) (jv_FS_push hF2 (by omega) (by omega)) ?_
  refine jv_putr (t := ((i + 2 : Nat) : Int)) C kf_X6_15 hnm jv_FS_i (Nat.le_of_ble_eq_true rfl) ⟨rfl, rfl⟩ dX6_init_16 ?_
  refine jv_shw (sh' := (jv_FS F base ((i : Nat) : Int) (.inr (6, [some (some ((i + 1 : Nat) : Int)), some (some ((i + 2 : Nat) : Int)), none, some none, some none])) ((i + 3 : Nat) : Int))) jv_FS_set ?_
  refine jv_aload_n C dX6_init_19 rfl ?_
  refine jv_const C dX6_init_20 ?_
  refine jv_newi (n := i + 3) (cn := 0) (N := 3) (at' := .int) C rfl (by decide) ka_int (fun b => hz _ b (by omega)) rfl ⟨rfl, rfl⟩ dX6_init_21 ?_
  refine jv_shw (sh' := (jv_FS F base ((i : Nat) : Int) (.inr (6, [some (some ((i + 1 : Nat) : Int)), some (some ((i + 2 : Nat) : Int)), none, some none, some none])) ((i + 4 : Nat) : Int))) (jv_FS_push hF3 (by omega) (by omega)) ?_
  refine jv_putr (t := ((i + 3 : Nat) : Int)) C kf_X6_18 hnm jv_FS_i (Nat.le_of_ble_eq_true rfl) ⟨rfl, rfl⟩ dX6_init_23 ?_
  refine jv_shw (sh' := (jv_FS F base ((i : Nat) : Int) (.inr (6, [some (some ((i + 1 : Nat) : Int)), some (some ((i + 2 : Nat) : Int)), some (some ((i + 3 : Nat) : Int)), some none, some none])) ((i + 4 : Nat) : Int))) jv_FS_set ?_
  refine jv_aload_n C dX6_init_26 rfl ?_
  refine jv_getr C kf_X6_9 jv_FS_i rfl dX6_init_27 ?_
  refine jv_const C dX6_init_30 ?_
  refine jv_callSv C (Q := fun g' => g' = jv_fill g ((i + 1 : Nat) : Int) 9 (-1)) (M_J7_fill (jv_FS_in hF1 (by omega) (by omega)) rfl rfl) kw_X6_21 rfl ⟨rfl, rfl⟩ (st := []) rfl rfl ⟨rfl, rfl⟩ dX6_init_31 (fun g1 eg1 => ?_)
  subst eg1
  exact jv_vret C hr hlk ⟨rfl, rfl⟩ dX6_init_34 ⟨rfl, rfl⟩
set_option maxHeartbeats 4000000 in
set_option maxRecDepth 100000 in
theorem MI_X7 {l : Launch} {s0 : State} {b0 : Addr} {D : va_G} {ids : Nat → ClassId} {g : jv_Mem} {F base : jv_Sh} {i : Nat} (hF1 : F ((i + 1 : Nat) : Int) = some (.inl (0, 30, 0))) (hF2 : F ((i + 2 : Nat) : Int) = some (.inl (0, 90, 0))) (hF3 : F ((i + 3 : Nat) : Int) = some (.inl (0, 30, 0))) (hF4 : F ((i + 4 : Nat) : Int) = some (.inl (0, 30, 0))) (hF5 : F ((i + 5 : Nat) : Int) = some (.inl (0, 1458, 0))) (hF6 : F ((i + 6 : Nat) : Int) = some (.inl (0, 1458, 0))) (hz : ∀ a b : Int, ((i : Nat) : Int) < a → g a b = 0) : jv_M l s0 b0 D ids yX7_init cX7_init 1 none 1 23 6 3096 (some (i + 1)) (jv_FS F base ((i : Nat) : Int) (.inr (7, [none, none, none, none, none, none, some none])) ((i + 1 : Nat) : Int)) g [.ref (s0.heap.size + ((i : Nat) : Int).toNat)] (some (i + 7)) (jv_FS F base ((i : Nat) : Int) (.inr (7, [some (some ((i + 1 : Nat) : Int)), some (some ((i + 2 : Nat) : Int)), some (some ((i + 3 : Nat) : Int)), some (some ((i + 4 : Nat) : Int)), some (some ((i + 5 : Nat) : Int)), some (some ((i + 6 : Nat) : Int)), some none])) ((i + 7 : Nat) : Int)) (fun v g' => v = none ∧ g' = (jv_fill g ((i + 6 : Nat) : Int) 1458 (-1))) := by
  refine jv_M.of (by decide +kernel) rfl rfl (fun p e s m args below meth c C hml hr hlk hnm => ?_)
  replace C : jv_C p s m args c cX7_init RX7 s0 b0 D ids := C
  show jv_V p l e (jv_rm 1 23 6 3096) s m args below meth c 0 0 (jv_ZM below s0 D ids (some (i + 7)) (jv_FS F base ((i : Nat) : Int) (.inr (7, [some (some ((i + 1 : Nat) : Int)), some (some ((i + 2 : Nat) : Int)), some (some ((i + 3 : Nat) : Int)), some (some ((i + 4 : Nat) : Int)), some (some ((i + 5 : Nat) : Int)), some (some ((i + 6 : Nat) : Int)), some none])) ((i + 7 : Nat) : Int)) (fun v g' => v = none ∧ g' = (jv_fill g ((i + 6 : Nat) : Int) 1458 (-1))) args s 6 3096) s0 D ids (some (i + 1)) (jv_FS F base ((i : Nat) : Int) (.inr (7, [none, none, none, none, none, none, some none])) ((i + 1 : Nat) : Int)) g 0 [some (.ref (s0.heap.size + ((i : Nat) : Int).toNat))] []
  refine jv_aload_n C dX7_init_0 rfl ?_
  refine jv_ogi C ko_X7 ko_i ko_c ⟨rfl, rfl⟩ dX7_init_1 ?_
  refine jv_aload_n C dX7_init_4 rfl ?_
  refine jv_bipush C dX7_init_5 (by decide +kernel) ?_
  refine jv_newi (n := i + 1) (cn := 0) (N := 30) (at' := .int) C rfl (by decide) ka_int (fun b => hz _ b (by omega)) rfl ⟨rfl, rfl⟩ dX7_init_7 ?_
  refine jv_shw (sh' := (jv_FS F base ((i : Nat) : Int) (.inr (7, [none, none, none, none, none, none, some none])) ((i + 2 : Nat) : Int))) (jv_FS_push hF1 (by omega) (by omega)) ?_
  refine jv_putr (t := ((i + 1 : Nat) : Int)) C kf_X7_9 hnm jv_FS_i (Nat.le_of_ble_eq_true rfl) ⟨rfl, rfl⟩ dX7_init_9 ?_
  refine jv_shw (sh' := (jv_FS F base ((i : Nat) : Int) (.inr (7, [some (some ((i + 1 : Nat) : Int)), none, none, none, none, none, some none])) ((i + 2 : Nat) : Int))) jv_FS_set ?_
  refine jv_aload_n C dX7_init_12 rfl ?_
  refine jv_bipush C dX7_init_13 (by decide +kernel) ?_
  refine jv_newi (n := i + 2) (cn := 0) (N := 90) (at' := .int) C rfl (by decide) ka_int (fun b => hz _ b (by omega)) rfl ⟨rfl, rfl⟩ dX7_init_15 ?_
  refine jv_shw (sh' := (jv_FS F base ((i : Nat) : Int) (.inr (7, [some (some ((i + 1 : Nat) : Int)), none, none, none, none, none, some none])) ((i + 3 : Nat) : Int))) (jv_FS_push hF2 (by omega) (by omega)) ?_
  refine jv_putr (t := ((i + 2 : Nat) : Int)) C kf_X7_15 hnm jv_FS_i (Nat.le_of_ble_eq_true rfl) ⟨rfl, rfl⟩ dX7_init_17 ?_
  refine jv_shw (sh' := (jv_FS F base ((i : Nat) : Int) (.inr (7, [some (some ((i + 1 : Nat) : Int)), some (some ((i + 2 : Nat) : Int)), none, none, none, none, some none])) ((i + 3 : Nat) : Int))) jv_FS_set ?_
  refine jv_aload_n C dX7_init_20 rfl ?_
  refine jv_bipush C dX7_init_21 (by decide +kernel) ?_
  refine jv_newi (n := i + 3) (cn := 0) (N := 30) (at' := .int) C rfl (by decide) ka_int (fun b => hz _ b (by omega)) rfl ⟨rfl, rfl⟩ dX7_init_23 ?_
  refine jv_shw (sh' := (jv_FS F base ((i : Nat) : Int) (.inr (7, [some (some ((i + 1 : Nat) : Int)), some (some ((i + 2 : Nat) : Int)), none, none, none, none, some none])) ((i + 4 : Nat) : Int))) (jv_FS_push hF3 (by omega) (by omega)) ?_
  refine jv_putr (t := ((i + 3 : Nat) : Int)) C kf_X7_18 hnm jv_FS_i (Nat.le_of_ble_eq_true rfl) ⟨rfl, rfl⟩ dX7_init_25 ?_
  refine jv_shw (sh' := (jv_FS F base ((i : Nat) : Int) (.inr (7, [some (some ((i + 1 : Nat) : Int)), some (some ((i + 2 : Nat) : Int)), some (some ((i + 3 : Nat) : Int)), none, none, none, some none])) ((i + 4 : Nat) : Int))) jv_FS_set ?_
  refine jv_aload_n C dX7_init_28 rfl ?_
  refine jv_bipush C dX7_init_29 (by decide +kernel) ?_
  refine jv_newi (n := i + 4) (cn := 0) (N := 30) (at' := .int) C rfl (by decide) ka_int (fun b => hz _ b (by omega)) rfl ⟨rfl, rfl⟩ dX7_init_31 ?_
  refine jv_shw (sh' := (jv_FS F base ((i : Nat) : Int) (.inr (7, [some (some ((i + 1 : Nat) : Int)), some (some ((i + 2 : Nat) : Int)), some (some ((i + 3 : Nat) : Int)), none, none, none, some none])) ((i + 5 : Nat) : Int))) (jv_FS_push hF4 (by omega) (by omega)) ?_
  refine jv_putr (t := ((i + 4 : Nat) : Int)) C kf_X7_21 hnm jv_FS_i (Nat.le_of_ble_eq_true rfl) ⟨rfl, rfl⟩ dX7_init_33 ?_
  refine jv_shw (sh' := (jv_FS F base ((i : Nat) : Int) (.inr (7, [some (some ((i + 1 : Nat) : Int)), some (some ((i + 2 : Nat) : Int)), some (some ((i + 3 : Nat) : Int)), some (some ((i + 4 : Nat) : Int)), none, none, some none])) ((i + 5 : Nat) : Int))) jv_FS_set ?_
  refine jv_aload_n C dX7_init_36 rfl ?_
  refine jv_sipush C dX7_init_37 (by decide +kernel) ?_
  refine jv_newi (n := i + 5) (cn := 0) (N := 1458) (at' := .int) C rfl (by decide) ka_int (fun b => hz _ b (by omega)) rfl ⟨rfl, rfl⟩ dX7_init_40 ?_
  refine jv_shw (sh' := (jv_FS F base ((i : Nat) : Int) (.inr (7, [some (some ((i + 1 : Nat) : Int)), some (some ((i + 2 : Nat) : Int)), some (some ((i + 3 : Nat) : Int)), some (some ((i + 4 : Nat) : Int)), none, none, some none])) ((i + 6 : Nat) : Int))) (jv_FS_push hF5 (by omega) (by omega)) ?_
  refine jv_putr (t := ((i + 5 : Nat) : Int)) C kf_X7_24 hnm jv_FS_i (Nat.le_of_ble_eq_true rfl) ⟨rfl, rfl⟩ dX7_init_42 ?_
  refine jv_shw (sh' := (jv_FS F base ((i : Nat) : Int) (.inr (7, [some (some ((i + 1 : Nat) : Int)), some (some ((i + 2 : Nat) : Int)), some (some ((i + 3 : Nat) : Int)), some (some ((i + 4 : Nat) : Int)), some (some ((i + 5 : Nat) : Int)), none, some none])) ((i + 6 : Nat) : Int))) jv_FS_set ?_
  refine jv_aload_n C dX7_init_45 rfl ?_
  refine jv_sipush C dX7_init_46 (by decide +kernel) ?_
  refine jv_newi (n := i + 6) (cn := 0) (N := 1458) (at' := .int) C rfl (by decide) ka_int (fun b => hz _ b (by omega)) rfl ⟨rfl, rfl⟩ dX7_init_49 ?_
  refine jv_shw (sh' := (jv_FS F base ((i : Nat) : Int) (.inr (7, [some (some ((i + 1 : Nat) : Int)), some (some ((i + 2 : Nat) : Int)), some (some ((i + 3 : Nat) : Int)), some (some ((i + 4 : Nat) : Int)), some (some ((i + 5 : Nat) : Int)), none, some none])) ((i + 7 : Nat) : Int))) (jv_FS_push hF6 (by omega) (by omega)) ?_
  refine jv_putr (t := ((i + 6 : Nat) : Int)) C kf_X7_27 hnm jv_FS_i (Nat.le_of_ble_eq_true rfl) ⟨rfl, rfl⟩ dX7_init_51 ?_
  refine jv_shw (sh' := (jv_FS F base ((i : Nat) : Int) (.inr (7, [some (some ((i + 1 : Nat) : Int)), some (some ((i + 2 : Nat) : Int)), some (some ((i + 3 : Nat) : Int)), some (some ((i + 4 : Nat) : Int)), some (some ((i + 5 : Nat) : Int)), some (some ((i + 6 : Nat) : Int)), some none])) ((i + 7 : Nat) : Int))) jv_FS_set ?_
  refine jv_aload_n C dX7_init_54 rfl ?_
  refine jv_getr C kf_X7_27 jv_FS_i rfl dX7_init_55 ?_
  refine jv_const C dX7_init_58 ?_
  refine jv_callSv C (Q := fun g' => g' = jv_fill g ((i + 6 : Nat) : Int) 1458 (-1)) (M_J7_fill (jv_FS_in hF6 (by omega) (by omega)) rfl rfl) kw_X7_30 rfl ⟨rfl, rfl⟩ (st := []) rfl rfl ⟨rfl, rfl⟩ dX7_init_59 (fun g1 eg1 => ?_)
  subst eg1
  exact jv_vret C hr hlk ⟨rfl, rfl⟩ dX7_init_62 ⟨rfl, rfl⟩
set_option maxHeartbeats 4000000 in
set_option maxRecDepth 100000 in
theorem MI_X4 {l : Launch} {s0 : State} {b0 : Addr} {D : va_G} {ids : Nat → ClassId} {g : jv_Mem} {F base : jv_Sh} {i : Nat} (hF1 : F ((i + 1 : Nat) : Int) = some (.inr (2, [some (some ((i + 2 : Nat) : Int)), some (some ((i + 3 : Nat) : Int)), some none]))) (hF2 : F ((i + 2 : Nat) : Int) = some (.inl (0, 180, 0))) (hF3 : F ((i + 3 : Nat) : Int) = some (.inl (1, 1252, 0))) (hF4 : F ((i + 4 : Nat) : Int) = some (.inl (0, 180, 0))) (hF5 : F ((i + 5 : Nat) : Int) = some (.inl (0, 20, 0))) (hz : ∀ a b : Int, ((i : Nat) : Int) < a → g a b = 0) : jv_M l s0 b0 D ids yX4_init cX4_init 1 none 2 32 5 1635 (some (i + 1)) (jv_FS F base ((i : Nat) : Int) (.inr (4, [none, none, none, some none])) ((i + 1 : Nat) : Int)) g [.ref (s0.heap.size + ((i : Nat) : Int).toNat)] (some (i + 6)) (jv_FS F base ((i : Nat) : Int) (.inr (4, [some (some ((i + 1 : Nat) : Int)), some (some ((i + 4 : Nat) : Int)), some (some ((i + 5 : Nat) : Int)), some none])) ((i + 6 : Nat) : Int)) (fun v g' => v = none ∧ g' = g) := by
  refine jv_M.of (by decide +kernel) rfl rfl (fun p e s m args below meth c C hml hr hlk hnm => ?_)
  replace C : jv_C p s m args c cX4_init RX4 s0 b0 D ids := C
  show jv_V p l e (jv_rm 2 32 5 1635) s m args below meth c 0 0 (jv_ZM below s0 D ids (some (i + 6)) (jv_FS F base ((i : Nat) : Int) (.inr (4, [some (some ((i + 1 : Nat) : Int)), some (some ((i + 4 : Nat) : Int)), some (some ((i + 5 : Nat) : Int)), some none])) ((i + 6 : Nat) : Int)) (fun v g' => v = none ∧ g' = g) args s 5 1635) s0 D ids (some (i + 1)) (jv_FS F base ((i : Nat) : Int) (.inr (4, [none, none, none, some none])) ((i + 1 : Nat) : Int)) g 0 [some (.ref (s0.heap.size + ((i : Nat) : Int).toNat))] []
  refine jv_aload_n C dX4_init_0 rfl ?_
  refine jv_ogi C ko_X4 ko_i ko_c ⟨rfl, rfl⟩ dX4_init_1 ?_
  refine jv_aload_n C dX4_init_4 rfl ?_
  refine jv_new (n := i + 1) C (ci := 2) (N := 3) (ds := [none, none, some none]) rfl ku_X2 tyX2_ok kl_X4_9 kq_X2 kj_X2 (fun b => hz _ b (by omega)) (fun j hj => by rcases (show j = 0 ∨ j = 1 ∨ j = 2 by omega) with rfl | rfl | rfl <;> rfl) ⟨rfl, rfl⟩ dX4_init_5 ?_
  refine jv_shw (sh' := jv_FS F (jv_FS F base ((i : Nat) : Int) (.inr (4, [none, none, none, some none])) ((i + 1 : Nat) : Int)) ((i + 1 : Nat) : Int) (.inr (2, [none, none, some none])) ((i + 2 : Nat) : Int)) (jv_FS_open (by omega)) ?_
  refine jv_dup C rfl dX4_init_8 ?_
  refine jv_callIN C (MI_X2 (F := F) (base := (jv_FS F base ((i : Nat) : Int) (.inr (4, [none, none, none, some none])) ((i + 1 : Nat) : Int))) (i := i + 1) (by simpa [Nat.add_assoc] using hF2) (by simpa [Nat.add_assoc] using hF3) (fun a b h => hz a b (by omega))) kn_X4_11 rfl ⟨rfl, rfl⟩ (st := [.ref (s0.heap.size + ((i + 1 : Nat) : Int).toNat), .ref (s0.heap.size + ((i : Nat) : Int).toNat)]) rfl rfl ⟨rfl, rfl⟩ dX4_init_9 ?_
  rintro _ _ ⟨rfl, rfl⟩
  refine jv_shw (sh' := (jv_FS F base ((i : Nat) : Int) (.inr (4, [none, none, none, some none])) ((i + 4 : Nat) : Int))) (jv_FS_close hF1 (by omega) (by omega)) ?_
  refine jv_putr (t := ((i + 1 : Nat) : Int)) C kf_X4_12 hnm jv_FS_i (Nat.le_of_ble_eq_true rfl) ⟨rfl, rfl⟩ dX4_init_12 ?_
  refine jv_shw (sh' := (jv_FS F base ((i : Nat) : Int) (.inr (4, [some (some ((i + 1 : Nat) : Int)), none, none, some none])) ((i + 4 : Nat) : Int))) jv_FS_set ?_
  refine jv_aload_n C dX4_init_15 rfl ?_
  refine jv_sipush C dX4_init_16 (by decide +kernel) ?_
  refine jv_newi (n := i + 4) (cn := 0) (N := 180) (at' := .int) C rfl (by decide) ka_int (fun b => hz _ b (by omega)) rfl ⟨rfl, rfl⟩ dX4_init_19 ?_
  refine jv_shw (sh' := (jv_FS F base ((i : Nat) : Int) (.inr (4, [some (some ((i + 1 : Nat) : Int)), none, none, some none])) ((i + 5 : Nat) : Int))) (jv_FS_push hF4 (by omega) (by omega)) ?_
  refine jv_putr (t := ((i + 4 : Nat) : Int)) C kf_X4_18 hnm jv_FS_i (Nat.le_of_ble_eq_true rfl) ⟨rfl, rfl⟩ dX4_init_21 ?_
  refine jv_shw (sh' := (jv_FS F base ((i : Nat) : Int) (.inr (4, [some (some ((i + 1 : Nat) : Int)), some (some ((i + 4 : Nat) : Int)), none, some none])) ((i + 5 : Nat) : Int))) jv_FS_set ?_
  refine jv_aload_n C dX4_init_24 rfl ?_
  refine jv_bipush C dX4_init_25 (by decide +kernel) ?_
  refine jv_newi (n := i + 5) (cn := 0) (N := 20) (at' := .int) C rfl (by decide) ka_int (fun b => hz _ b (by omega)) rfl ⟨rfl, rfl⟩ dX4_init_27 ?_
  refine jv_shw (sh' := (jv_FS F base ((i : Nat) : Int) (.inr (4, [some (some ((i + 1 : Nat) : Int)), some (some ((i + 4 : Nat) : Int)), none, some none])) ((i + 6 : Nat) : Int))) (jv_FS_push hF5 (by omega) (by omega)) ?_
  refine jv_putr (t := ((i + 5 : Nat) : Int)) C kf_X4_22 hnm jv_FS_i (Nat.le_of_ble_eq_true rfl) ⟨rfl, rfl⟩ dX4_init_29 ?_
  refine jv_shw (sh' := (jv_FS F base ((i : Nat) : Int) (.inr (4, [some (some ((i + 1 : Nat) : Int)), some (some ((i + 4 : Nat) : Int)), some (some ((i + 5 : Nat) : Int)), some none])) ((i + 6 : Nat) : Int))) jv_FS_set ?_
  exact jv_vret C hr hlk ⟨rfl, rfl⟩ dX4_init_32 ⟨rfl, rfl⟩
