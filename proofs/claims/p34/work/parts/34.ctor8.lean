def jv_SHx (p q : Nat) : jv_Sh := fun j => if j = 19 then some (.inl (3, 20, p)) else if j = 20 then some (.inl (4, 6, q)) else jv_SH j
def jv_no : jv_Sh := fun _ => none
theorem jv_SHx_n {p q : Nat} {j : Int} {k : jv_Kd} (h : jv_SH j = some k) (h1 : j ≠ 19) (h2 : j ≠ 20) : jv_SHx p q j = some k := by unfold jv_SHx; rw [if_neg h1, if_neg h2]; exact h
theorem jv_FS_p {base : jv_Sh} {d : jv_Kd} {p q : Nat} {n : Int} (hn : 19 < n) : ∀ j k, jv_FS (jv_SHx (p + 1) q) base 0 d n j = some k → jv_su (jv_FS (jv_SHx p q) base 0 d n) 19 (.inl (3, 20, p + 1)) j = some k := by
  intro j k h
  unfold jv_su
  unfold jv_FS at h ⊢
  by_cases h1 : j = 19
  · subst h1
    rw [if_neg (by omega), if_neg (by omega), if_pos hn] at h
    rw [if_pos rfl]; exact h
  · rw [if_neg h1]
    unfold jv_SHx at h ⊢
    rw [if_neg h1] at h ⊢
    exact h
theorem jv_FS_q {base : jv_Sh} {d : jv_Kd} {p q : Nat} {n : Int} (hn : 20 < n) : ∀ j k, jv_FS (jv_SHx p (q + 1)) base 0 d n j = some k → jv_su (jv_FS (jv_SHx p q) base 0 d n) 20 (.inl (4, 6, q + 1)) j = some k := by
  intro j k h
  unfold jv_su
  unfold jv_FS at h ⊢
  by_cases h1 : j = 20
  · subst h1
    rw [if_neg (by omega), if_neg (by omega), if_pos hn] at h
    rw [if_pos rfl]; exact h
  · rw [if_neg h1]
    unfold jv_SHx at h ⊢
    rw [if_neg h1] at h ⊢
    exact h
set_option maxHeartbeats 4000000 in
set_option maxRecDepth 100000 in
theorem MI_X8 {l : Launch} {s0 : State} {b0 : Addr} {D : va_G} {ids : Nat → ClassId} {g : jv_Mem} (hz : ∀ a b : Int, 0 < a → g a b = 0) : jv_M l s0 b0 D ids yX8_init cX8_init 2 none 3 52 125 19839 (some 1) (jv_FS (jv_SHx 0 0) jv_no 0 (.inr (8, [none, none, none, none, none, none, none, none, none, some none, some none, some none])) ((1 : Nat) : Int)) g [.ref (s0.heap.size + (0 : Int).toNat)] (some 126) (jv_FS (jv_SHx 20 6) jv_no 0 (.inr (8, [some (some 1), some (some 3), some (some 10), some (some 14), some (some 19), some (some 20), some (some 21), some (some 26), some (some 29), some none, some none, some none])) 126) (fun v g' => v = none ∧ g' = (jv_fill (jv_fill g 9 1458 (-1)) 11 9 (-1))) := by
  refine jv_M.of (by decide +kernel) rfl rfl (fun p e s m args below meth c C hml hr hlk hnm => ?_)
  replace C : jv_C p s m args c cX8_init RX8 s0 b0 D ids := C
  have hzz : ∀ a b : Int, 29 < a → (jv_fill (jv_fill g 9 1458 (-1)) 11 9 (-1)) a b = 0 := fun a b h => by have := hz a b (by omega); simp only [jv_fill]; rw [if_neg (by omega), if_neg (by omega)]; exact this
  have loopS : ∀ (k q : Nat), q + k = 6 → jv_V p l e (jv_rm 3 52 125 19839) s m args below meth c (89 + 6 * q) (10005 + 1639 * q) (jv_ZM below s0 D ids (some 126) (jv_FS (jv_SHx 20 6) jv_no 0 (.inr (8, [some (some 1), some (some 3), some (some 10), some (some 14), some (some 19), some (some 20), some (some 21), some (some 26), some (some 29), some none, some none, some none])) 126) (fun v g' => v = none ∧ g' = (jv_fill (jv_fill g 9 1458 (-1)) 11 9 (-1))) args s 125 19839) s0 D ids (some (90 + 6 * q)) (jv_FS (jv_SHx 20 q) jv_no 0 (.inr (8, [some (some 1), some (some 3), some (some 10), some (some 14), some (some 19), some (some 20), some (some 21), some (some 26), some (some 29), some none, some none, some none])) ((90 + 6 * q : Nat) : Int)) (jv_fill (jv_fill g 9 1458 (-1)) 11 9 (-1)) 125 [some (.ref (s0.heap.size + (0 : Int).toNat)), some (jv_i ((q : Nat) : Int))] [] := by
    intro k
    induction k with
    | zero =>
      intro q hq
      have e : q = 6 := by omega
      subst e
      refine jv_iload_n C dX8_init_125 rfl ?_
      refine jv_bipush C dX8_init_126 (by decide +kernel) ?_
      refine jv_icmp_ge (tgt := 150) C ⟨by decide, by decide⟩ ⟨by decide, by decide⟩ dX8_init_128 rfl (fun hc => ?_) (fun hc => absurd hc (by decide))
      exact jv_vret C hr hlk ⟨rfl, rfl⟩ dX8_init_150 ⟨rfl, rfl⟩
    | succ k ih =>
      intro q hq
      refine jv_iload_n C dX8_init_125 rfl ?_
      refine jv_bipush C dX8_init_126 (by decide +kernel) ?_
      refine jv_icmp_ge (tgt := 150) C ⟨by omega, by omega⟩ ⟨by decide, by decide⟩ dX8_init_128 rfl (fun hc => absurd hc (by omega)) (fun hc => ?_)
      refine jv_aload_n C dX8_init_131 rfl ?_
      refine jv_getr C kf_X8_45 jv_FS_i rfl dX8_init_132 ?_
      refine jv_iload_n C dX8_init_135 rfl ?_
      obtain ⟨v1, v2, v3, v4⟩ := jv_sv (x := ((q : Nat) : Int)) (by omega) (by omega)
      have e0 : ((90 + 6 * q : Nat) : Int) = 90 + 6 * ((q : Nat) : Int) := by omega
      have u0 : jv_SHx 20 q ((90 + 6 * q : Nat) : Int) = some (.inr (4, [some (some ((90 + 6 * q + 1 : Nat) : Int)), some (some ((90 + 6 * q + 4 : Nat) : Int)), some (some ((90 + 6 * q + 5 : Nat) : Int)), some none])) := jv_SHx_n (by rw [e0, v1]; simp only [Option.some.injEq, Sum.inr.injEq, Prod.mk.injEq, List.cons.injEq, and_true, true_and]; omega) (by omega) (by omega)
      have u1 : jv_SHx 20 q ((90 + 6 * q + 1 : Nat) : Int) = some (.inr (2, [some (some ((90 + 6 * q + 2 : Nat) : Int)), some (some ((90 + 6 * q + 3 : Nat) : Int)), some none])) := jv_SHx_n (by rw [show ((90 + 6 * q + 1 : Nat) : Int) = 90 + 6 * ((q : Nat) : Int) + 1 by omega, v4.1]; simp only [Option.some.injEq, Sum.inr.injEq, Prod.mk.injEq, List.cons.injEq, and_true, true_and]; omega) (by omega) (by omega)
      have u2 : jv_SHx 20 q ((90 + 6 * q + 2 : Nat) : Int) = some (.inl (0, 180, 0)) := jv_SHx_n (by rw [show ((90 + 6 * q + 2 : Nat) : Int) = 90 + 6 * ((q : Nat) : Int) + 1 + 1 by omega]; exact v4.2.1) (by omega) (by omega)
      have u3 : jv_SHx 20 q ((90 + 6 * q + 3 : Nat) : Int) = some (.inl (1, 1252, 0)) := jv_SHx_n (by rw [show ((90 + 6 * q + 3 : Nat) : Int) = 90 + 6 * ((q : Nat) : Int) + 1 + 2 by omega]; exact v4.2.2) (by omega) (by omega)
      have u4 : jv_SHx 20 q ((90 + 6 * q + 4 : Nat) : Int) = some (.inl (0, 180, 0)) := jv_SHx_n (by rw [show ((90 + 6 * q + 4 : Nat) : Int) = 90 + 6 * ((q : Nat) : Int) + 4 by omega]; exact v2) (by omega) (by omega)
      have u5 : jv_SHx 20 q ((90 + 6 * q + 5 : Nat) : Int) = some (.inl (0, 20, 0)) := jv_SHx_n (by rw [show ((90 + 6 * q + 5 : Nat) : Int) = 90 + 6 * ((q : Nat) : Int) + 5 by omega]; exact v3) (by omega) (by omega)
      refine jv_new (n := 90 + 6 * q) C (ci := 4) (N := 4) (ds := [none, none, none, some none]) rfl ku_X4 tyX4_ok kl_X8_43 kq_X4 kj_X4 (fun b => hzz _ b (by omega)) (fun j hj => by rcases (show j = 0 ∨ j = 1 ∨ j = 2 ∨ j = 3 by omega) with rfl | rfl | rfl | rfl <;> rfl) ⟨Nat.ble_eq_true_of_le (by show _ ≤ 125; omega), Nat.ble_eq_true_of_le (by show _ ≤ 19839; omega)⟩ dX8_init_136 ?_
      refine jv_shw (sh' := jv_FS (jv_SHx 20 q) (jv_FS (jv_SHx 20 q) jv_no 0 (.inr (8, [some (some 1), some (some 3), some (some 10), some (some 14), some (some 19), some (some 20), some (some 21), some (some 26), some (some 29), some none, some none, some none])) ((90 + 6 * q : Nat) : Int)) ((90 + 6 * q : Nat) : Int) (.inr (4, [none, none, none, some none])) ((90 + 6 * q + 1 : Nat) : Int)) (jv_FS_open (by omega)) ?_
      refine jv_dup C rfl dX8_init_139 ?_
      refine jv_callIN C (MI_X4 (F := jv_SHx 20 q) (base := jv_FS (jv_SHx 20 q) jv_no 0 (.inr (8, [some (some 1), some (some 3), some (some 10), some (some 14), some (some 19), some (some 20), some (some 21), some (some 26), some (some 29), some none, some none, some none])) ((90 + 6 * q : Nat) : Int)) (i := 90 + 6 * q) u1 u2 u3 u4 u5 (fun a b h => hzz a b (by omega))) kn_X8_68 rfl ⟨rfl, rfl⟩ (st := [.ref (s0.heap.size + ((90 + 6 * q : Nat) : Int).toNat), jv_i ((q : Nat) : Int), .ref (s0.heap.size + (20 : Int).toNat)]) rfl rfl ⟨Nat.ble_eq_true_of_le (by show _ ≤ 125; omega), Nat.ble_eq_true_of_le (by show _ ≤ 19839; omega)⟩ dX8_init_140 ?_
      rintro _ _ ⟨rfl, rfl⟩
      refine jv_shw (sh' := jv_FS (jv_SHx 20 q) jv_no 0 (.inr (8, [some (some 1), some (some 3), some (some 10), some (some 14), some (some 19), some (some 20), some (some 21), some (some 26), some (some 29), some none, some none, some none])) ((90 + 6 * q + 6 : Nat) : Int)) (jv_FS_close u0 (by omega) (by omega)) ?_
      refine jv_aast C (cn := 1) (n := 6) (mm := q) (i := 20) (t := ((90 + 6 * q : Nat) : Int)) (r := (RX4, TX4, 4)) (by decide) (jv_FS_in rfl (by decide) (by omega)) (jv_FS_in u0 (by omega) (by omega)) rfl rfl rfl rfl (by omega) (by simp only [jv_ra]; omega) dX8_init_143 ?_
      refine jv_shw (jv_FS_q (by omega)) ?_
      refine jv_iincn C dX8_init_144 (Nat.lt_of_lt_of_eq (Nat.le_of_ble_eq_true rfl) hml) rfl (fun v ev => ?_)
      have ev' : v = ((q + 1 : Nat) : Int) := by omega
      subst ev'
      refine jv_goto (tgt := 125) C dX8_init_147 rfl ?_
      have := ih (q + 1) (by omega)
      simp only [Nat.mul_add, Nat.mul_one, ← Nat.add_assoc] at this ⊢
      exact this
  have loopP : ∀ (k q : Nat), q + k = 20 → jv_V p l e (jv_rm 3 52 125 19839) s m args below meth c (29 + 3 * q) (9605 + 20 * q) (jv_ZM below s0 D ids (some 126) (jv_FS (jv_SHx 20 6) jv_no 0 (.inr (8, [some (some 1), some (some 3), some (some 10), some (some 14), some (some 19), some (some 20), some (some 21), some (some 26), some (some 29), some none, some none, some none])) 126) (fun v g' => v = none ∧ g' = (jv_fill (jv_fill g 9 1458 (-1)) 11 9 (-1))) args s 125 19839) s0 D ids (some (30 + 3 * q)) (jv_FS (jv_SHx q 0) jv_no 0 (.inr (8, [some (some 1), some (some 3), some (some 10), some (some 14), some (some 19), some (some 20), some (some 21), some (some 26), some (some 29), some none, some none, some none])) ((30 + 3 * q : Nat) : Int)) (jv_fill (jv_fill g 9 1458 (-1)) 11 9 (-1)) 98 [some (.ref (s0.heap.size + (0 : Int).toNat)), some (jv_i ((q : Nat) : Int))] [] := by
    intro k
    induction k with
    | zero =>
      intro q hq
      have e : q = 20 := by omega
      subst e
      refine jv_iload_n C dX8_init_98 rfl ?_
      refine jv_bipush C dX8_init_99 (by decide +kernel) ?_
      refine jv_icmp_ge (tgt := 123) C ⟨by decide, by decide⟩ ⟨by decide, by decide⟩ dX8_init_101 rfl (fun hc => ?_) (fun hc => absurd hc (by decide))
      refine jv_const C dX8_init_123 ?_
      refine jv_istore_n (ls' := [some (.ref (s0.heap.size + (0 : Int).toNat)), some (jv_i 0)]) C dX8_init_124 (Nat.lt_of_lt_of_eq (Nat.le_of_ble_eq_true rfl) hml) rfl ?_
      exact loopS 6 0 (by omega)
    | succ k ih =>
      intro q hq
      refine jv_iload_n C dX8_init_98 rfl ?_
      refine jv_bipush C dX8_init_99 (by decide +kernel) ?_
      refine jv_icmp_ge (tgt := 123) C ⟨by omega, by omega⟩ ⟨by decide, by decide⟩ dX8_init_101 rfl (fun hc => absurd hc (by omega)) (fun hc => ?_)
      refine jv_aload_n C dX8_init_104 rfl ?_
      refine jv_getr C kf_X8_39 jv_FS_i rfl dX8_init_105 ?_
      refine jv_iload_n C dX8_init_108 rfl ?_
      obtain ⟨v1, v2, v3⟩ := jv_pz (x := ((q : Nat) : Int)) (by omega) (by omega)
      have e0 : ((30 + 3 * q : Nat) : Int) = 30 + 3 * ((q : Nat) : Int) := by omega
      have u0 : jv_SHx q 0 ((30 + 3 * q : Nat) : Int) = some (.inr (3, [some (some ((30 + 3 * q + 1 : Nat) : Int)), some (some ((30 + 3 * q + 2 : Nat) : Int)), some none, some none, some none])) := jv_SHx_n (by rw [e0, v1]; simp only [Option.some.injEq, Sum.inr.injEq, Prod.mk.injEq, List.cons.injEq, and_true, true_and]; omega) (by omega) (by omega)
      have u1 : jv_SHx q 0 ((30 + 3 * q + 1 : Nat) : Int) = some (.inl (0, 9, 0)) := jv_SHx_n (by rw [show ((30 + 3 * q + 1 : Nat) : Int) = 30 + 3 * ((q : Nat) : Int) + 1 by omega]; exact v2) (by omega) (by omega)
      have u2 : jv_SHx q 0 ((30 + 3 * q + 2 : Nat) : Int) = some (.inl (0, 6, 0)) := jv_SHx_n (by rw [show ((30 + 3 * q + 2 : Nat) : Int) = 30 + 3 * ((q : Nat) : Int) + 2 by omega]; exact v3) (by omega) (by omega)
      refine jv_new (n := 30 + 3 * q) C (ci := 3) (N := 5) (ds := [none, none, some none, some none, some none]) rfl ku_X3 tyX3_ok kl_X8_37 kq_X3 kj_X3 (fun b => hzz _ b (by omega)) (fun j hj => by rcases (show j = 0 ∨ j = 1 ∨ j = 2 ∨ j = 3 ∨ j = 4 by omega) with rfl | rfl | rfl | rfl | rfl <;> rfl) ⟨Nat.ble_eq_true_of_le (by show _ ≤ 125; omega), Nat.ble_eq_true_of_le (by show _ ≤ 19839; omega)⟩ dX8_init_109 ?_
      refine jv_shw (sh' := jv_FS (jv_SHx q 0) (jv_FS (jv_SHx q 0) jv_no 0 (.inr (8, [some (some 1), some (some 3), some (some 10), some (some 14), some (some 19), some (some 20), some (some 21), some (some 26), some (some 29), some none, some none, some none])) ((30 + 3 * q : Nat) : Int)) ((30 + 3 * q : Nat) : Int) (.inr (3, [none, none, some none, some none, some none])) ((30 + 3 * q + 1 : Nat) : Int)) (jv_FS_open (by omega)) ?_
      refine jv_dup C rfl dX8_init_112 ?_
      refine jv_callIN C (MI_X3 (F := jv_SHx q 0) (base := jv_FS (jv_SHx q 0) jv_no 0 (.inr (8, [some (some 1), some (some 3), some (some 10), some (some 14), some (some 19), some (some 20), some (some 21), some (some 26), some (some 29), some none, some none, some none])) ((30 + 3 * q : Nat) : Int)) (i := 30 + 3 * q) u1 u2 (fun a b h => hzz a b (by omega))) kn_X8_67 rfl ⟨rfl, rfl⟩ (st := [.ref (s0.heap.size + ((30 + 3 * q : Nat) : Int).toNat), jv_i ((q : Nat) : Int), .ref (s0.heap.size + (19 : Int).toNat)]) rfl rfl ⟨Nat.ble_eq_true_of_le (by show _ ≤ 125; omega), Nat.ble_eq_true_of_le (by show _ ≤ 19839; omega)⟩ dX8_init_113 ?_
      rintro _ _ ⟨rfl, rfl⟩
      refine jv_shw (sh' := jv_FS (jv_SHx q 0) jv_no 0 (.inr (8, [some (some 1), some (some 3), some (some 10), some (some 14), some (some 19), some (some 20), some (some 21), some (some 26), some (some 29), some none, some none, some none])) ((30 + 3 * q + 3 : Nat) : Int)) (jv_FS_close u0 (by omega) (by omega)) ?_
      refine jv_aast C (cn := 0) (n := 20) (mm := q) (i := 19) (t := ((30 + 3 * q : Nat) : Int)) (r := (RX3, TX3, 5)) (by decide) (jv_FS_in rfl (by decide) (by omega)) (jv_FS_in u0 (by omega) (by omega)) rfl rfl rfl rfl (by omega) (by simp only [jv_ra]; omega) dX8_init_116 ?_
      refine jv_shw (jv_FS_p (by omega)) ?_
      refine jv_iincn C dX8_init_117 (Nat.lt_of_lt_of_eq (Nat.le_of_ble_eq_true rfl) hml) rfl (fun v ev => ?_)
      have ev' : v = ((q + 1 : Nat) : Int) := by omega
      subst ev'
      refine jv_goto (tgt := 98) C dX8_init_120 rfl ?_
      have := ih (q + 1) (by omega)
      simp only [Nat.mul_add, Nat.mul_one, ← Nat.add_assoc] at this ⊢
      exact this
  show jv_V p l e (jv_rm 3 52 125 19839) s m args below meth c 0 0 (jv_ZM below s0 D ids (some 126) (jv_FS (jv_SHx 20 6) jv_no 0 (.inr (8, [some (some 1), some (some 3), some (some 10), some (some 14), some (some 19), some (some 20), some (some 21), some (some 26), some (some 29), some none, some none, some none])) 126) (fun v g' => v = none ∧ g' = (jv_fill (jv_fill g 9 1458 (-1)) 11 9 (-1))) args s 125 19839) s0 D ids (some 1) (jv_FS (jv_SHx 0 0) jv_no 0 (.inr (8, [none, none, none, none, none, none, none, none, none, some none, some none, some none])) ((1 : Nat) : Int)) g 0 [some (.ref (s0.heap.size + (0 : Int).toNat)), none] []
  refine jv_aload_n C dX8_init_0 rfl ?_
  refine jv_ogi C ko_X8 ko_i ko_c ⟨rfl, rfl⟩ dX8_init_1 ?_
  refine jv_aload_n C dX8_init_4 rfl ?_
  refine jv_new (n := 1) C (ci := 5) (N := 2) (ds := [none, some none]) rfl ku_X5 tyX5_ok kl_X8_7 kq_X5 kj_X5 (fun b => hz _ b (by omega)) (fun j hj => by rcases (show j = 0 ∨ j = 1 by omega) with rfl | rfl <;> rfl) ⟨rfl, rfl⟩ dX8_init_5 ?_
  refine jv_shw (sh' := jv_FS (jv_SHx 0 0) (jv_FS (jv_SHx 0 0) jv_no 0 (.inr (8, [none, none, none, none, none, none, none, none, none, some none, some none, some none])) ((1 : Nat) : Int)) ((1 : Nat) : Int) (.inr (5, [none, some none])) ((2 : Nat) : Int)) (jv_FS_open (by decide)) ?_
  refine jv_dup C rfl dX8_init_8 ?_
  refine jv_callIN C (MI_X5 (F := (jv_SHx 0 0)) (base := (jv_FS (jv_SHx 0 0) jv_no 0 (.inr (8, [none, none, none, none, none, none, none, none, none, some none, some none, some none])) ((1 : Nat) : Int))) (i := 1) (jv_SHx_n (by exact sS_2) (by decide) (by decide)) (fun a b h => hz a b (by omega))) kn_X8_9 rfl ⟨rfl, rfl⟩ (st := [.ref (s0.heap.size + ((1 : Nat) : Int).toNat), .ref (s0.heap.size + (0 : Int).toNat)]) rfl rfl ⟨rfl, rfl⟩ dX8_init_9 ?_
  rintro _ _ ⟨rfl, rfl⟩
  refine jv_shw (sh' := (jv_FS (jv_SHx 0 0) jv_no 0 (.inr (8, [none, none, none, none, none, none, none, none, none, some none, some none, some none])) ((3 : Nat) : Int))) (jv_FS_close (jv_SHx_n (by exact sS_1) (by decide) (by decide)) (by decide) (by decide)) ?_
  refine jv_putr (t := ((1 : Nat) : Int)) C kf_X8_10 hnm jv_FS_i (Nat.le_of_ble_eq_true rfl) ⟨rfl, rfl⟩ dX8_init_12 ?_
  refine jv_shw (sh' := (jv_FS (jv_SHx 0 0) jv_no 0 (.inr (8, [some (some 1), none, none, none, none, none, none, none, none, some none, some none, some none])) ((3 : Nat) : Int))) jv_FS_set ?_
  refine jv_aload_n C dX8_init_15 rfl ?_
  refine jv_new (n := 3) C (ci := 7) (N := 7) (ds := [none, none, none, none, none, none, some none]) rfl ku_X7 tyX7_ok kl_X8_16 kq_X7 kj_X7 (fun b => hz _ b (by omega)) (fun j hj => by rcases (show j = 0 ∨ j = 1 ∨ j = 2 ∨ j = 3 ∨ j = 4 ∨ j = 5 ∨ j = 6 by omega) with rfl | rfl | rfl | rfl | rfl | rfl | rfl <;> rfl) ⟨rfl, rfl⟩ dX8_init_16 ?_
  refine jv_shw (sh' := jv_FS (jv_SHx 0 0) (jv_FS (jv_SHx 0 0) jv_no 0 (.inr (8, [some (some 1), none, none, none, none, none, none, none, none, some none, some none, some none])) ((3 : Nat) : Int)) ((3 : Nat) : Int) (.inr (7, [none, none, none, none, none, none, some none])) ((4 : Nat) : Int)) (jv_FS_open (by decide)) ?_
  refine jv_dup C rfl dX8_init_19 ?_
  refine jv_callI C (MI_X7 (F := (jv_SHx 0 0)) (base := (jv_FS (jv_SHx 0 0) jv_no 0 (.inr (8, [some (some 1), none, none, none, none, none, none, none, none, some none, some none, some none])) ((3 : Nat) : Int))) (i := 3) (jv_SHx_n (by exact sS_4) (by decide) (by decide)) (jv_SHx_n (by exact sS_5) (by decide) (by decide)) (jv_SHx_n (by exact sS_6) (by decide) (by decide)) (jv_SHx_n (by exact sS_7) (by decide) (by decide)) (jv_SHx_n (by exact sS_8) (by decide) (by decide)) (jv_SHx_n (by exact sS_9) (by decide) (by decide)) (fun a b h => hz a b (by omega))) kn_X8_18 rfl ⟨rfl, rfl⟩ (st := [.ref (s0.heap.size + ((3 : Nat) : Int).toNat), .ref (s0.heap.size + (0 : Int).toNat)]) rfl rfl ⟨rfl, rfl⟩ dX8_init_20 ?_
  rintro _ _ ⟨rfl, rfl⟩
  refine jv_shw (sh' := (jv_FS (jv_SHx 0 0) jv_no 0 (.inr (8, [some (some 1), none, none, none, none, none, none, none, none, some none, some none, some none])) ((10 : Nat) : Int))) (jv_FS_close (jv_SHx_n (by exact sS_3) (by decide) (by decide)) (by decide) (by decide)) ?_
  refine jv_putr (t := ((3 : Nat) : Int)) C kf_X8_19 hnm jv_FS_i (Nat.le_of_ble_eq_true rfl) ⟨rfl, rfl⟩ dX8_init_23 ?_
  refine jv_shw (sh' := (jv_FS (jv_SHx 0 0) jv_no 0 (.inr (8, [some (some 1), some (some 3), none, none, none, none, none, none, none, some none, some none, some none])) ((10 : Nat) : Int))) jv_FS_set ?_
  refine jv_aload_n C dX8_init_26 rfl ?_
  refine jv_new (n := 10) C (ci := 6) (N := 5) (ds := [none, none, none, some none, some none]) rfl ku_X6 tyX6_ok kl_X8_23 kq_X6 kj_X6 (fun b => by have := hz 10 b (by omega); simp only [jv_fill]; first | exact this | (rw [if_neg (by omega)]; exact this) | (rw [if_neg (by omega), if_neg (by omega)]; exact this)) (fun j hj => by rcases (show j = 0 ∨ j = 1 ∨ j = 2 ∨ j = 3 ∨ j = 4 by omega) with rfl | rfl | rfl | rfl | rfl <;> rfl) ⟨rfl, rfl⟩ dX8_init_27 ?_
  refine jv_shw (sh' := jv_FS (jv_SHx 0 0) (jv_FS (jv_SHx 0 0) jv_no 0 (.inr (8, [some (some 1), some (some 3), none, none, none, none, none, none, none, some none, some none, some none])) ((10 : Nat) : Int)) ((10 : Nat) : Int) (.inr (6, [none, none, none, some none, some none])) ((11 : Nat) : Int)) (jv_FS_open (by decide)) ?_
  refine jv_dup C rfl dX8_init_30 ?_
  refine jv_callI C (MI_X6 (F := (jv_SHx 0 0)) (base := (jv_FS (jv_SHx 0 0) jv_no 0 (.inr (8, [some (some 1), some (some 3), none, none, none, none, none, none, none, some none, some none, some none])) ((10 : Nat) : Int))) (i := 10) (jv_SHx_n (by exact sS_11) (by decide) (by decide)) (jv_SHx_n (by exact sS_12) (by decide) (by decide)) (jv_SHx_n (by exact sS_13) (by decide) (by decide)) (fun a b h => by have := hz a b (by omega); simp only [jv_fill]; first | exact this | (rw [if_neg (by omega)]; exact this) | (rw [if_neg (by omega), if_neg (by omega)]; exact this))) kn_X8_25 rfl ⟨rfl, rfl⟩ (st := [.ref (s0.heap.size + ((10 : Nat) : Int).toNat), .ref (s0.heap.size + (0 : Int).toNat)]) rfl rfl ⟨rfl, rfl⟩ dX8_init_31 ?_
  rintro _ _ ⟨rfl, rfl⟩
  refine jv_shw (sh' := (jv_FS (jv_SHx 0 0) jv_no 0 (.inr (8, [some (some 1), some (some 3), none, none, none, none, none, none, none, some none, some none, some none])) ((14 : Nat) : Int))) (jv_FS_close (jv_SHx_n (by exact sS_10) (by decide) (by decide)) (by decide) (by decide)) ?_
  refine jv_putr (t := ((10 : Nat) : Int)) C kf_X8_26 hnm jv_FS_i (Nat.le_of_ble_eq_true rfl) ⟨rfl, rfl⟩ dX8_init_34 ?_
  refine jv_shw (sh' := (jv_FS (jv_SHx 0 0) jv_no 0 (.inr (8, [some (some 1), some (some 3), some (some 10), none, none, none, none, none, none, some none, some none, some none])) ((14 : Nat) : Int))) jv_FS_set ?_
  refine jv_aload_n C dX8_init_37 rfl ?_
  refine jv_new (n := 14) C (ci := 0) (N := 5) (ds := [none, none, none, none, some none]) rfl ku_X0 tyX0_ok kl_X8_30 kq_X0 kj_X0 (fun b => by have := hz 14 b (by omega); simp only [jv_fill]; first | exact this | (rw [if_neg (by omega)]; exact this) | (rw [if_neg (by omega), if_neg (by omega)]; exact this)) (fun j hj => by rcases (show j = 0 ∨ j = 1 ∨ j = 2 ∨ j = 3 ∨ j = 4 by omega) with rfl | rfl | rfl | rfl | rfl <;> rfl) ⟨rfl, rfl⟩ dX8_init_38 ?_
  refine jv_shw (sh' := jv_FS (jv_SHx 0 0) (jv_FS (jv_SHx 0 0) jv_no 0 (.inr (8, [some (some 1), some (some 3), some (some 10), none, none, none, none, none, none, some none, some none, some none])) ((14 : Nat) : Int)) ((14 : Nat) : Int) (.inr (0, [none, none, none, none, some none])) ((15 : Nat) : Int)) (jv_FS_open (by decide)) ?_
  refine jv_dup C rfl dX8_init_41 ?_
  refine jv_callIN C (MI_X0 (F := (jv_SHx 0 0)) (base := (jv_FS (jv_SHx 0 0) jv_no 0 (.inr (8, [some (some 1), some (some 3), some (some 10), none, none, none, none, none, none, some none, some none, some none])) ((14 : Nat) : Int))) (i := 14) (jv_SHx_n (by exact sS_15) (by decide) (by decide)) (jv_SHx_n (by exact sS_16) (by decide) (by decide)) (jv_SHx_n (by exact sS_17) (by decide) (by decide)) (jv_SHx_n (by exact sS_18) (by decide) (by decide)) (fun a b h => by have := hz a b (by omega); simp only [jv_fill]; first | exact this | (rw [if_neg (by omega)]; exact this) | (rw [if_neg (by omega), if_neg (by omega)]; exact this))) kn_X8_32 rfl ⟨rfl, rfl⟩ (st := [.ref (s0.heap.size + ((14 : Nat) : Int).toNat), .ref (s0.heap.size + (0 : Int).toNat)]) rfl rfl ⟨rfl, rfl⟩ dX8_init_42 ?_
  rintro _ _ ⟨rfl, rfl⟩
  refine jv_shw (sh' := (jv_FS (jv_SHx 0 0) jv_no 0 (.inr (8, [some (some 1), some (some 3), some (some 10), none, none, none, none, none, none, some none, some none, some none])) ((19 : Nat) : Int))) (jv_FS_close (jv_SHx_n (by exact sS_14) (by decide) (by decide)) (by decide) (by decide)) ?_
  refine jv_putr (t := ((14 : Nat) : Int)) C kf_X8_33 hnm jv_FS_i (Nat.le_of_ble_eq_true rfl) ⟨rfl, rfl⟩ dX8_init_45 ?_
  refine jv_shw (sh' := (jv_FS (jv_SHx 0 0) jv_no 0 (.inr (8, [some (some 1), some (some 3), some (some 10), some (some 14), none, none, none, none, none, some none, some none, some none])) ((19 : Nat) : Int))) jv_FS_set ?_
  refine jv_aload_n C dX8_init_48 rfl ?_
  refine jv_bipush C dX8_init_49 (by decide +kernel) ?_
  refine jv_newq (n := 19) (cn := 0) (N := 20) C rfl (by decide) kl_X8_37 kv_X3 rfl ⟨rfl, rfl⟩ dX8_init_51 ?_
  refine jv_shw (sh' := (jv_FS (jv_SHx 0 0) jv_no 0 (.inr (8, [some (some 1), some (some 3), some (some 10), some (some 14), none, none, none, none, none, some none, some none, some none])) ((20 : Nat) : Int))) (jv_FS_push (by rfl) (by decide) (by decide)) ?_
  refine jv_putr (t := ((19 : Nat) : Int)) C kf_X8_39 hnm jv_FS_i (Nat.le_of_ble_eq_true rfl) ⟨rfl, rfl⟩ dX8_init_54 ?_
  refine jv_shw (sh' := (jv_FS (jv_SHx 0 0) jv_no 0 (.inr (8, [some (some 1), some (some 3), some (some 10), some (some 14), some (some 19), none, none, none, none, some none, some none, some none])) ((20 : Nat) : Int))) jv_FS_set ?_
  refine jv_aload_n C dX8_init_57 rfl ?_
  refine jv_bipush C dX8_init_58 (by decide +kernel) ?_
  refine jv_newq (n := 20) (cn := 1) (N := 6) C rfl (by decide) kl_X8_43 kv_X4 rfl ⟨rfl, rfl⟩ dX8_init_60 ?_
  refine jv_shw (sh' := (jv_FS (jv_SHx 0 0) jv_no 0 (.inr (8, [some (some 1), some (some 3), some (some 10), some (some 14), some (some 19), none, none, none, none, some none, some none, some none])) ((21 : Nat) : Int))) (jv_FS_push (by rfl) (by decide) (by decide)) ?_
  refine jv_putr (t := ((20 : Nat) : Int)) C kf_X8_45 hnm jv_FS_i (Nat.le_of_ble_eq_true rfl) ⟨rfl, rfl⟩ dX8_init_63 ?_
  refine jv_shw (sh' := (jv_FS (jv_SHx 0 0) jv_no 0 (.inr (8, [some (some 1), some (some 3), some (some 10), some (some 14), some (some 19), some (some 20), none, none, none, some none, some none, some none])) ((21 : Nat) : Int))) jv_FS_set ?_
  refine jv_aload_n C dX8_init_66 rfl ?_
  refine jv_new (n := 21) C (ci := 1) (N := 5) (ds := [none, none, none, none, some none]) rfl ku_X1 tyX1_ok kl_X8_49 kq_X1 kj_X1 (fun b => by have := hz 21 b (by omega); simp only [jv_fill]; first | exact this | (rw [if_neg (by omega)]; exact this) | (rw [if_neg (by omega), if_neg (by omega)]; exact this)) (fun j hj => by rcases (show j = 0 ∨ j = 1 ∨ j = 2 ∨ j = 3 ∨ j = 4 by omega) with rfl | rfl | rfl | rfl | rfl <;> rfl) ⟨rfl, rfl⟩ dX8_init_67 ?_
  refine jv_shw (sh' := jv_FS (jv_SHx 0 0) (jv_FS (jv_SHx 0 0) jv_no 0 (.inr (8, [some (some 1), some (some 3), some (some 10), some (some 14), some (some 19), some (some 20), none, none, none, some none, some none, some none])) ((21 : Nat) : Int)) ((21 : Nat) : Int) (.inr (1, [none, none, none, none, some none])) ((22 : Nat) : Int)) (jv_FS_open (by decide)) ?_
  refine jv_dup C rfl dX8_init_70 ?_
  refine jv_callIN C (MI_X1 (F := (jv_SHx 0 0)) (base := (jv_FS (jv_SHx 0 0) jv_no 0 (.inr (8, [some (some 1), some (some 3), some (some 10), some (some 14), some (some 19), some (some 20), none, none, none, some none, some none, some none])) ((21 : Nat) : Int))) (i := 21) (jv_SHx_n (by exact sS_22) (by decide) (by decide)) (jv_SHx_n (by exact sS_23) (by decide) (by decide)) (jv_SHx_n (by exact sS_24) (by decide) (by decide)) (jv_SHx_n (by exact sS_25) (by decide) (by decide)) (fun a b h => by have := hz a b (by omega); simp only [jv_fill]; first | exact this | (rw [if_neg (by omega)]; exact this) | (rw [if_neg (by omega), if_neg (by omega)]; exact this))) kn_X8_51 rfl ⟨rfl, rfl⟩ (st := [.ref (s0.heap.size + ((21 : Nat) : Int).toNat), .ref (s0.heap.size + (0 : Int).toNat)]) rfl rfl ⟨rfl, rfl⟩ dX8_init_71 ?_
  rintro _ _ ⟨rfl, rfl⟩
  refine jv_shw (sh' := (jv_FS (jv_SHx 0 0) jv_no 0 (.inr (8, [some (some 1), some (some 3), some (some 10), some (some 14), some (some 19), some (some 20), none, none, none, some none, some none, some none])) ((26 : Nat) : Int))) (jv_FS_close (jv_SHx_n (by exact sS_21) (by decide) (by decide)) (by decide) (by decide)) ?_
  refine jv_putr (t := ((21 : Nat) : Int)) C kf_X8_52 hnm jv_FS_i (Nat.le_of_ble_eq_true rfl) ⟨rfl, rfl⟩ dX8_init_74 ?_
  refine jv_shw (sh' := (jv_FS (jv_SHx 0 0) jv_no 0 (.inr (8, [some (some 1), some (some 3), some (some 10), some (some 14), some (some 19), some (some 20), some (some 21), none, none, some none, some none, some none])) ((26 : Nat) : Int))) jv_FS_set ?_
  refine jv_aload_n C dX8_init_77 rfl ?_
  refine jv_new (n := 26) C (ci := 2) (N := 3) (ds := [none, none, some none]) rfl ku_X2 tyX2_ok kl_X8_56 kq_X2 kj_X2 (fun b => by have := hz 26 b (by omega); simp only [jv_fill]; first | exact this | (rw [if_neg (by omega)]; exact this) | (rw [if_neg (by omega), if_neg (by omega)]; exact this)) (fun j hj => by rcases (show j = 0 ∨ j = 1 ∨ j = 2 by omega) with rfl | rfl | rfl <;> rfl) ⟨rfl, rfl⟩ dX8_init_78 ?_
  refine jv_shw (sh' := jv_FS (jv_SHx 0 0) (jv_FS (jv_SHx 0 0) jv_no 0 (.inr (8, [some (some 1), some (some 3), some (some 10), some (some 14), some (some 19), some (some 20), some (some 21), none, none, some none, some none, some none])) ((26 : Nat) : Int)) ((26 : Nat) : Int) (.inr (2, [none, none, some none])) ((27 : Nat) : Int)) (jv_FS_open (by decide)) ?_
  refine jv_dup C rfl dX8_init_81 ?_
  refine jv_callIN C (MI_X2 (F := (jv_SHx 0 0)) (base := (jv_FS (jv_SHx 0 0) jv_no 0 (.inr (8, [some (some 1), some (some 3), some (some 10), some (some 14), some (some 19), some (some 20), some (some 21), none, none, some none, some none, some none])) ((26 : Nat) : Int))) (i := 26) (jv_SHx_n (by exact sS_27) (by decide) (by decide)) (jv_SHx_n (by exact sS_28) (by decide) (by decide)) (fun a b h => by have := hz a b (by omega); simp only [jv_fill]; first | exact this | (rw [if_neg (by omega)]; exact this) | (rw [if_neg (by omega), if_neg (by omega)]; exact this))) kn_X8_58 rfl ⟨rfl, rfl⟩ (st := [.ref (s0.heap.size + ((26 : Nat) : Int).toNat), .ref (s0.heap.size + (0 : Int).toNat)]) rfl rfl ⟨rfl, rfl⟩ dX8_init_82 ?_
  rintro _ _ ⟨rfl, rfl⟩
  refine jv_shw (sh' := (jv_FS (jv_SHx 0 0) jv_no 0 (.inr (8, [some (some 1), some (some 3), some (some 10), some (some 14), some (some 19), some (some 20), some (some 21), none, none, some none, some none, some none])) ((29 : Nat) : Int))) (jv_FS_close (jv_SHx_n (by exact sS_26) (by decide) (by decide)) (by decide) (by decide)) ?_
  refine jv_putr (t := ((26 : Nat) : Int)) C kf_X8_59 hnm jv_FS_i (Nat.le_of_ble_eq_true rfl) ⟨rfl, rfl⟩ dX8_init_85 ?_
  refine jv_shw (sh' := (jv_FS (jv_SHx 0 0) jv_no 0 (.inr (8, [some (some 1), some (some 3), some (some 10), some (some 14), some (some 19), some (some 20), some (some 21), some (some 26), none, some none, some none, some none])) ((29 : Nat) : Int))) jv_FS_set ?_
  refine jv_aload_n C dX8_init_88 rfl ?_
  refine jv_bipush C dX8_init_89 (by decide +kernel) ?_
  refine jv_newi (n := 29) (cn := 0) (N := 20) (at' := .int) C rfl (by decide) ka_int (fun b => by have := hz 29 b (by omega); simp only [jv_fill]; (rw [if_neg (by omega), if_neg (by omega)]; exact this)) rfl ⟨rfl, rfl⟩ dX8_init_91 ?_
  refine jv_shw (sh' := (jv_FS (jv_SHx 0 0) jv_no 0 (.inr (8, [some (some 1), some (some 3), some (some 10), some (some 14), some (some 19), some (some 20), some (some 21), some (some 26), none, some none, some none, some none])) ((30 : Nat) : Int))) (jv_FS_push (jv_SHx_n (by exact sS_29) (by decide) (by decide)) (by decide) (by decide)) ?_
  refine jv_putr (t := ((29 : Nat) : Int)) C kf_X8_63 hnm jv_FS_i (Nat.le_of_ble_eq_true rfl) ⟨rfl, rfl⟩ dX8_init_93 ?_
  refine jv_shw (sh' := (jv_FS (jv_SHx 0 0) jv_no 0 (.inr (8, [some (some 1), some (some 3), some (some 10), some (some 14), some (some 19), some (some 20), some (some 21), some (some 26), some (some 29), some none, some none, some none])) ((30 : Nat) : Int))) jv_FS_set ?_
  refine jv_const C dX8_init_96 ?_
  refine jv_istore_n (ls' := [some (.ref (s0.heap.size + (0 : Int).toNat)), some (jv_i 0)]) C dX8_init_97 (Nat.lt_of_lt_of_eq (Nat.le_of_ble_eq_true rfl) hml) rfl ?_
  exact loopP 20 0 (by omega)
