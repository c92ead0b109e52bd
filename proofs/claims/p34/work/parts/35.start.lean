theorem kn_L_82 : jv_KI RL 82 yX8_init cX8_init 2 0 := ⟨(jv_tb_in (jv_tm (k := 21) (by decide +kernel)) (by decide +kernel)), (jv_tb_in (jv_tm (k := 22) (by decide +kernel)) (by decide +kernel)), (jv_tb_in (jv_tm (k := 1) (by decide +kernel)) (by decide +kernel)), (jv_tb_in (jv_tm (k := 23) (by decide +kernel)) (by decide +kernel)), rfl, by decide +kernel, by decide +kernel, by decide +kernel⟩
theorem kl_L_10 : Cond.classLink RL 10 "Clueyard" ∈ jv_tb := (jv_tb_in (jv_tm (k := 19) (by decide +kernel)) (by decide +kernel))
def jv_g00 : jv_Mem := fun _ _ => 0
def jv_gi : jv_Mem := (jv_fill (jv_fill jv_g00 9 1458 (-1)) 11 9 (-1))
theorem jv_sh1 : ∀ j k, (jv_FS (jv_SHx 0 0) jv_no 0 (.inr (8, [none, none, none, none, none, none, none, none, none, some none, some none, some none])) ((1 : Nat) : Int)) j = some k → jv_su jv_no ((0 : Nat) : Int) (.inr (8, [none, none, none, none, none, none, none, none, none, some none, some none, some none])) j = some k := by
  intro j k h
  unfold jv_FS at h
  unfold jv_su jv_no
  by_cases h1 : j < 0
  · rw [if_pos h1] at h; cases h
  · rw [if_neg h1] at h
    by_cases h2 : j = 0
    · rw [if_pos h2] at h; rw [if_pos (by omega)]; exact h
    · rw [if_neg h2, if_neg (by omega)] at h; cases h
theorem jv_sh3 : ∀ j k, jv_SH j = some k → (jv_FS (jv_SHx 20 6) jv_no 0 (.inr (8, [some (some 1), some (some 3), some (some 10), some (some 14), some (some 19), some (some 20), some (some 21), some (some 26), some (some 29), some none, some none, some none])) 126) j = some k := by
  intro j k h
  have hl := jv_SH_lt h
  unfold jv_FS
  rw [if_neg (by omega)]
  by_cases h3 : j = 0
  · subst h3; rw [if_pos rfl]; exact h
  · rw [if_neg h3, if_pos hl.2]
    unfold jv_SHx
    by_cases h4 : j = 19
    · subst h4; exact h
    · rw [if_neg h4]
      by_cases h5 : j = 20
      · subst h5; exact h
      · rw [if_neg h5]; exact h
set_option maxHeartbeats 4000000 in
set_option maxRecDepth 100000 in
theorem jv_start {p : Program} {l : Launch} {e : Env} {m : MethodId} {below : List Frame} {meth : Method} {c : Code} {s0 : State} {b0 : Addr} {D : va_G} {ids : Nat → ClassId} (C : jv_C p s0 m #[Value.ref b0] c code RL s0 b0 D ids) (hml : 17 = c.maxLocals) (hU : jv_V p l e room_1 s0 m #[Value.ref b0] below meth c (1000 + 0) (50000 + 0) (lw_Z below #[Value.ref b0] s0) s0 D ids none jv_SH jv_gi 8 [some (.ref b0), some (.ref (s0.heap.size + (0 : Int).toNat)), none, none, none, none, none, none, none, none, none, none, none, none, none, none, none] []) : jv_V p l e room_1 s0 m #[Value.ref b0] below meth c 0 0 (lw_Z below #[Value.ref b0] s0) s0 D ids (some 0) jv_no jv_g00 0 [some (.ref b0), none, none, none, none, none, none, none, none, none, none, none, none, none, none, none, none] [] := by
  refine jv_new (n := 0) C (ci := 8) (N := 12) (ds := [none, none, none, none, none, none, none, none, none, some none, some none, some none]) rfl ku_X8 tyX8_ok kl_L_10 kq_X8 kj_X8 (fun b => rfl) (fun j hj => by rcases (show j = 0 ∨ j = 1 ∨ j = 2 ∨ j = 3 ∨ j = 4 ∨ j = 5 ∨ j = 6 ∨ j = 7 ∨ j = 8 ∨ j = 9 ∨ j = 10 ∨ j = 11 by omega) with rfl | rfl | rfl | rfl | rfl | rfl | rfl | rfl | rfl | rfl | rfl | rfl <;> rfl) ⟨rfl, rfl⟩ dL_law_0 ?_
  refine jv_shw jv_sh1 ?_
  refine jv_dup C rfl dL_law_3 ?_
  refine jv_callI C (MI_X8 (fun a b h => rfl)) kn_L_82 rfl ⟨rfl, rfl⟩ (st := [.ref (s0.heap.size + (0 : Int).toNat)]) rfl rfl ⟨rfl, rfl⟩ dL_law_4 ?_
  rintro _ _ ⟨rfl, rfl⟩
  refine jv_astore_n (ls' := [some (.ref b0), some (.ref (s0.heap.size + (0 : Int).toNat)), none, none, none, none, none, none, none, none, none, none, none, none, none, none, none]) C dL_law_7 (Nat.lt_of_lt_of_eq (Nat.le_of_ble_eq_true rfl) hml) rfl ?_
  refine jv_noex ?_
  refine jv_shw (sh' := jv_SH) jv_sh3 ?_
  refine jv_wd (k := 1000 + 0) (n := 50000 + 0) (by decide) (by decide) ?_
  exact hU
theorem jv_hK {s0 : State} {b0 : Addr} (hts : ∀ w ∈ lw_tbl, w.before #[Value.ref b0] s0 = true) : ∃ (D : va_G) (ids : Nat → ClassId), va_K D vwCl (jv_tys ids) s0 := by
  have ht : ∀ w ∈ jv_tb, w.before #[Value.ref b0] s0 = true := fun w hw => hts w (List.mem_filter.mp hw).1
  have key : ∀ k : Nat, ∃ r : ClassId × (Nat → Nat), ∀ q, vwCl[k]? = some q → u_Kn s0 q.1 q.2.1 q.2.2 r.1 r.2 := by
    intro k
    match k with
    | 0 => obtain ⟨c, iS, h⟩ := u_known (C := RX0) (T := TX0) (N := 5) (n := 5) ht ku_X0 (ht _ kq_X0); exact ⟨(c, iS), fun q hq => by cases hq; exact h⟩
    | 1 => obtain ⟨c, iS, h⟩ := u_known (C := RX1) (T := TX1) (N := 5) (n := 5) ht ku_X1 (ht _ kq_X1); exact ⟨(c, iS), fun q hq => by cases hq; exact h⟩
    | 2 => obtain ⟨c, iS, h⟩ := u_known (C := RX2) (T := TX2) (N := 3) (n := 3) ht ku_X2 (ht _ kq_X2); exact ⟨(c, iS), fun q hq => by cases hq; exact h⟩
    | 3 => obtain ⟨c, iS, h⟩ := u_known (C := RX3) (T := TX3) (N := 5) (n := 5) ht ku_X3 (ht _ kq_X3); exact ⟨(c, iS), fun q hq => by cases hq; exact h⟩
    | 4 => obtain ⟨c, iS, h⟩ := u_known (C := RX4) (T := TX4) (N := 4) (n := 4) ht ku_X4 (ht _ kq_X4); exact ⟨(c, iS), fun q hq => by cases hq; exact h⟩
    | 5 => obtain ⟨c, iS, h⟩ := u_known (C := RX5) (T := TX5) (N := 2) (n := 2) ht ku_X5 (ht _ kq_X5); exact ⟨(c, iS), fun q hq => by cases hq; exact h⟩
    | 6 => obtain ⟨c, iS, h⟩ := u_known (C := RX6) (T := TX6) (N := 5) (n := 5) ht ku_X6 (ht _ kq_X6); exact ⟨(c, iS), fun q hq => by cases hq; exact h⟩
    | 7 => obtain ⟨c, iS, h⟩ := u_known (C := RX7) (T := TX7) (N := 7) (n := 7) ht ku_X7 (ht _ kq_X7); exact ⟨(c, iS), fun q hq => by cases hq; exact h⟩
    | 8 => obtain ⟨c, iS, h⟩ := u_known (C := RX8) (T := TX8) (N := 12) (n := 12) ht ku_X8 (ht _ kq_X8); exact ⟨(c, iS), fun q hq => by cases hq; exact h⟩
    | k + 9 => exact ⟨(0, fun _ => 0), fun q hq => by simp [vwCl] at hq⟩
  have hch : ∀ k : Nat, ∀ q, vwCl[k]? = some q → u_Kn s0 q.1 q.2.1 q.2.2 (Classical.choose (key k)).1 (Classical.choose (key k)).2 := fun k => Classical.choose_spec (key k)
  have arr : ∀ ty : FieldType, (∀ C, ty ≠ .object C) → Cond.arrayClass ty ∈ jv_tb → ∃ cA, ArrOfT s0 cA ty ∧ va_RA s0 cA ty := by
    intro ty hno hw
    obtain ⟨cA, kA, comp, h1, h2, h3⟩ := Cond.arrayClass_spec (ht _ hw)
    refine ⟨cA, fun n z => ⟨fun k h => (by cases h), kA, h2, comp, h3⟩, ?_⟩
    cases ty <;> first | exact h1 | exact absurd rfl (hno _)
  have arq : ∀ C : String, Cond.arrayOver (.object C) ∈ lw_tbl → ∃ cA, ArrOfT s0 cA (.object C) ∧ va_RA s0 cA (.object C) := by
    intro C hw
    obtain ⟨comp, cA, kA, h1, -, h3, h4, h5⟩ := Cond.arrayOver_spec (hts _ hw)
    exact ⟨cA, fun n z => ⟨fun k h => (by cases h), kA, h3, comp, h4⟩, kA, comp, h3, h4, h1, h5⟩
  obtain ⟨i0, e0⟩ := arr .int (fun C h => by cases h) ka_int
  obtain ⟨i1, e1⟩ := arr .boolean (fun C h => by cases h) ka_boolean
  obtain ⟨i2, e2⟩ := arr .byte (fun C h => by cases h) ka_byte
  obtain ⟨i3, e3⟩ := arq RX3 kv_X3
  obtain ⟨i4, e4⟩ := arq RX4 kv_X4
  refine ⟨(fun k => (Classical.choose (key k)).1, fun k => (Classical.choose (key k)).2), fun k => [i0, i1, i2, i3, i4].getD k 0, fun c q hq => hch c q hq, fun k q hq => ?_⟩
  match k, hq with
  | 0, hq => cases hq; exact e0
  | 1, hq => cases hq; exact e1
  | 2, hq => cases hq; exact e2
  | 3, hq => cases hq; exact e3
  | 4, hq => cases hq; exact e4
  | k + 5, hq => simp [jv_tys] at hq
theorem jv_trace {l : Launch} (h : l.flags = flags0) : l.stackTraces = false := by
  first
    | (unfold Launch.stackTraces; rw [h]; decide +kernel)
    | (simp only [Launch.stackTraces, h]; decide +kernel)
    | (simp [Launch.stackTraces, h, flags0]; done)
