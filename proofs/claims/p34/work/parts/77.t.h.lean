/-! an entry is judged wrong -/
theorem fb_j1 : ∀ j : Fin 64, ∀ e : Fin 6, iv_bit (jv_or j.val (jv_shl 1 e.val)) e.val = 1 := by decide +kernel
theorem fb_j2 : ∀ j : Fin 64, ∀ e : Fin 6, iv_bit j.val e.val = 1 → 0 < iv_op j.val := by decide +kernel
theorem ib_j1 {j e : Int} (h0 : 0 ≤ j) (h1 : j < 64) (h2 : 0 ≤ e) (h3 : e < 6) : iv_bit (jv_or j (jv_shl 1 e)) e = 1 := by
  obtain ⟨k, rfl⟩ := @fi 64 j h0 h1
  obtain ⟨l, rfl⟩ := @fi 6 e h2 h3
  exact fb_j1 k l
theorem ib_j2 {j e : Int} (h0 : 0 ≤ j) (h1 : j < 64) (h2 : 0 ≤ e) (h3 : e < 6) (h : iv_bit j e = 1) : 0 < iv_op j := by
  obtain ⟨k, rfl⟩ := @fi 64 j h0 h1
  obtain ⟨l, rfl⟩ := @fi 6 e h2 h3
  exact fb_j2 k l h
theorem iJ.judge {x4 p e m w : Int} {g ga gc : jv_Mem} (hI : iJ x4 g) (hp : 0 ≤ p ∧ p < g 0 9) (he : 0 ≤ e ∧ e < 6) (hm : jv_or (iv_op (g 140 p)) (iv_ce e) = m) (hw : jv_and (iv_ce e) (jv_xor (iv_op (g 140 p)) (-1)) = w) (JX : iv_JX g p e m (g 0 10) ga)
    (lo : ∀ i k, i < 126 → gc i k = ga i k) (hi : ∀ i k, 126 ≤ i → i ≤ 147 → i ≠ 143 → i ≠ 145 → i ≠ 147 → ¬ (i = 126 ∧ k = 29) → ¬ (i = 140 ∧ k = p) → gc i k = g i k) (c140 : gc 140 p = jv_or (g 140 p) (jv_shl 1 e))
    (z1 : ∀ s, 0 ≤ s → s < 6 → gc 143 s = if s < g 0 10 then g 143 s + iv_pb (g (90 + 6 * s + 4)) w p 9 else g 143 s)
    (z2 : ∀ s q c, 0 ≤ s → s < 6 → 0 ≤ q → q < 20 → 0 ≤ c → c < 9 → gc 145 (((180 * s) + (9 * q)) + c) = if s < g 0 10 ∧ q = p ∧ iv_bit w c ≠ 0 then 0 else g 145 (((180 * s) + (9 * q)) + c))
    (z3 : ∀ s d, 0 ≤ s → s < 6 → 0 ≤ d → d < 1252 → gc 147 ((1260 * s) + d) = if s < g 0 10 then iv_jc g p m s d else g 147 ((1260 * s) + d)) : iJ (x4 + 5) gc := by
  obtain ⟨hx, j1, j2, j3, j4, j5, j6, j7, j8⟩ := id hI
  obtain ⟨n1, n2, n3, n4, n5⟩ := id j7
  obtain ⟨m1, m2, m3, m4, m5⟩ := id j6
  obtain ⟨y1, y2, y3, y4, y5, y6⟩ := id j8
  obtain ⟨l1, l2, l3, l4, l5, l6, l7, l8, l9⟩ := ex_p j6 hp.1 hp.2
  have hst := ib_st l6 l7 he.1 he.2
  have hopr := ib_op hst.2.1 hst.2.2
  rw [← hst.1] at hopr
  have hbits : ∀ c, 0 ≤ c → c < 9 → iv_bit (jv_or (iv_op (g 140 p)) (iv_ce e)) c = (if iv_bit (iv_op (g 140 p)) c = 0 then iv_bit (iv_ce e) c else 1) ∧ iv_bit (jv_and (iv_ce e) (jv_xor (iv_op (g 140 p)) (-1))) c = (if iv_bit (iv_op (g 140 p)) c = 0 then iv_bit (iv_ce e) c else 0) := fun c c0 c1 => ib_bits l6 l7 he.1 he.2 c0 c1
  obtain ⟨d1, d2, d3, d4, d5, d6, d7, d8, d9⟩ := JX
  subst hm
  subst hw
  generalize hm : jv_or (iv_op (g 140 p)) (iv_ce e) = m at *
  generalize hw : jv_and (iv_ce e) (jv_xor (iv_op (g 140 p)) (-1)) = w at *
  -- the final memory, cell by cell
  have lg : ∀ i k, i < 126 → i < 22 ∨ 25 < i → ¬ (i = 21 ∧ k = 4) → ¬ (i = 30 + 3 * p ∧ (k = 3 ∨ k = 4)) → ¬ (∃ s, 0 ≤ s ∧ s < g 0 10 ∧ ((i = 90 + 6 * s ∧ k = 3) ∨ i = 90 + 6 * s + 1 + 2)) → gc i k = g i k := fun i k i0 x1 x2 x3 x4 => by rw [lo i k i0]; exact d1 i k x1 x2 x3 x4
  have lg0 : ∀ i k, i < 30 → i < 22 ∨ 25 < i → ¬ (i = 21 ∧ k = 4) → gc i k = g i k := fun i k i0 x1 x2 => lg i k (by omega) x1 x2 (by omega) (fun ⟨s, s0, s1, hs⟩ => by omega)
  have lgs : ∀ s j k, 0 ≤ s → s < 6 → 0 ≤ j → j < 6 → j ≠ 3 → ¬ (j = 0 ∧ k = 3) → gc (90 + 6 * s + j) k = g (90 + 6 * s + j) k := fun s j k s0 s1 j0 j1 x1 x2 => lg _ k (by omega) (by omega) (by omega) (by omega) (fun ⟨s', s0', s1', hs⟩ => by omega)
  have i0 : gc 0 10 = g 0 10 := lg0 0 10 (by omega) (by omega) (by omega)
  have i9 : gc 0 9 = g 0 9 := lg0 0 9 (by omega) (by omega) (by omega)
  have i11 : gc 0 11 = g 0 11 := lg0 0 11 (by omega) (by omega) (by omega)
  have paid := fun (s : Int) (s0 : 0 ≤ s) (s1 : s < 6) => (n5 s s0 s1).2.2.2
  refine ⟨by omega, j1.fr fun i k hik => ?_, j2.fr fun i k hik => ?_, j3.fr fun i k hik => ?_, j4.fr fun i k hik => ?_, j5.fr fun i k hik => ?_, ?_, ?_, ?_⟩
  · by_cases q : i < 126
    · exact lg0 i k (by (try unfold f1 at hik); (try unfold f2 at hik); (try unfold f3 at hik); (try unfold f4 at hik); (try unfold f5 at hik); (try unfold f6 at hik); (try unfold f7 at hik); (try unfold f8 at hik); (try unfold jv_scr at hik); omega) (by (try unfold f1 at hik); (try unfold f2 at hik); (try unfold f3 at hik); (try unfold f4 at hik); (try unfold f5 at hik); (try unfold f6 at hik); (try unfold f7 at hik); (try unfold f8 at hik); (try unfold jv_scr at hik); omega) (by (try unfold f1 at hik); (try unfold f2 at hik); (try unfold f3 at hik); (try unfold f4 at hik); (try unfold f5 at hik); (try unfold f6 at hik); (try unfold f7 at hik); (try unfold f8 at hik); (try unfold jv_scr at hik); omega)
    · exact hi i k (by (try unfold f1 at hik); (try unfold f2 at hik); (try unfold f3 at hik); (try unfold f4 at hik); (try unfold f5 at hik); (try unfold f6 at hik); (try unfold f7 at hik); (try unfold f8 at hik); (try unfold jv_scr at hik); omega) (by (try unfold f1 at hik); (try unfold f2 at hik); (try unfold f3 at hik); (try unfold f4 at hik); (try unfold f5 at hik); (try unfold f6 at hik); (try unfold f7 at hik); (try unfold f8 at hik); (try unfold jv_scr at hik); omega) (by (try unfold f1 at hik); (try unfold f2 at hik); (try unfold f3 at hik); (try unfold f4 at hik); (try unfold f5 at hik); (try unfold f6 at hik); (try unfold f7 at hik); (try unfold f8 at hik); (try unfold jv_scr at hik); omega) (by (try unfold f1 at hik); (try unfold f2 at hik); (try unfold f3 at hik); (try unfold f4 at hik); (try unfold f5 at hik); (try unfold f6 at hik); (try unfold f7 at hik); (try unfold f8 at hik); (try unfold jv_scr at hik); omega) (by (try unfold f1 at hik); (try unfold f2 at hik); (try unfold f3 at hik); (try unfold f4 at hik); (try unfold f5 at hik); (try unfold f6 at hik); (try unfold f7 at hik); (try unfold f8 at hik); (try unfold jv_scr at hik); omega) (by (try unfold f1 at hik); (try unfold f2 at hik); (try unfold f3 at hik); (try unfold f4 at hik); (try unfold f5 at hik); (try unfold f6 at hik); (try unfold f7 at hik); (try unfold f8 at hik); (try unfold jv_scr at hik); omega) (by (try unfold f1 at hik); (try unfold f2 at hik); (try unfold f3 at hik); (try unfold f4 at hik); (try unfold f5 at hik); (try unfold f6 at hik); (try unfold f7 at hik); (try unfold f8 at hik); (try unfold jv_scr at hik); omega)
  · by_cases q : i < 126
    · exact lg0 i k (by (try unfold f1 at hik); (try unfold f2 at hik); (try unfold f3 at hik); (try unfold f4 at hik); (try unfold f5 at hik); (try unfold f6 at hik); (try unfold f7 at hik); (try unfold f8 at hik); (try unfold jv_scr at hik); omega) (by (try unfold f1 at hik); (try unfold f2 at hik); (try unfold f3 at hik); (try unfold f4 at hik); (try unfold f5 at hik); (try unfold f6 at hik); (try unfold f7 at hik); (try unfold f8 at hik); (try unfold jv_scr at hik); omega) (by (try unfold f1 at hik); (try unfold f2 at hik); (try unfold f3 at hik); (try unfold f4 at hik); (try unfold f5 at hik); (try unfold f6 at hik); (try unfold f7 at hik); (try unfold f8 at hik); (try unfold jv_scr at hik); omega)
    · exact hi i k (by (try unfold f1 at hik); (try unfold f2 at hik); (try unfold f3 at hik); (try unfold f4 at hik); (try unfold f5 at hik); (try unfold f6 at hik); (try unfold f7 at hik); (try unfold f8 at hik); (try unfold jv_scr at hik); omega) (by (try unfold f1 at hik); (try unfold f2 at hik); (try unfold f3 at hik); (try unfold f4 at hik); (try unfold f5 at hik); (try unfold f6 at hik); (try unfold f7 at hik); (try unfold f8 at hik); (try unfold jv_scr at hik); omega) (by (try unfold f1 at hik); (try unfold f2 at hik); (try unfold f3 at hik); (try unfold f4 at hik); (try unfold f5 at hik); (try unfold f6 at hik); (try unfold f7 at hik); (try unfold f8 at hik); (try unfold jv_scr at hik); omega) (by (try unfold f1 at hik); (try unfold f2 at hik); (try unfold f3 at hik); (try unfold f4 at hik); (try unfold f5 at hik); (try unfold f6 at hik); (try unfold f7 at hik); (try unfold f8 at hik); (try unfold jv_scr at hik); omega) (by (try unfold f1 at hik); (try unfold f2 at hik); (try unfold f3 at hik); (try unfold f4 at hik); (try unfold f5 at hik); (try unfold f6 at hik); (try unfold f7 at hik); (try unfold f8 at hik); (try unfold jv_scr at hik); omega) (by (try unfold f1 at hik); (try unfold f2 at hik); (try unfold f3 at hik); (try unfold f4 at hik); (try unfold f5 at hik); (try unfold f6 at hik); (try unfold f7 at hik); (try unfold f8 at hik); (try unfold jv_scr at hik); omega) (by (try unfold f1 at hik); (try unfold f2 at hik); (try unfold f3 at hik); (try unfold f4 at hik); (try unfold f5 at hik); (try unfold f6 at hik); (try unfold f7 at hik); (try unfold f8 at hik); (try unfold jv_scr at hik); omega)
  · by_cases q : i < 126
    · exact lg0 i k (by (try unfold f1 at hik); (try unfold f2 at hik); (try unfold f3 at hik); (try unfold f4 at hik); (try unfold f5 at hik); (try unfold f6 at hik); (try unfold f7 at hik); (try unfold f8 at hik); (try unfold jv_scr at hik); omega) (by (try unfold f1 at hik); (try unfold f2 at hik); (try unfold f3 at hik); (try unfold f4 at hik); (try unfold f5 at hik); (try unfold f6 at hik); (try unfold f7 at hik); (try unfold f8 at hik); (try unfold jv_scr at hik); omega) (by (try unfold f1 at hik); (try unfold f2 at hik); (try unfold f3 at hik); (try unfold f4 at hik); (try unfold f5 at hik); (try unfold f6 at hik); (try unfold f7 at hik); (try unfold f8 at hik); (try unfold jv_scr at hik); omega)
    · exact hi i k (by (try unfold f1 at hik); (try unfold f2 at hik); (try unfold f3 at hik); (try unfold f4 at hik); (try unfold f5 at hik); (try unfold f6 at hik); (try unfold f7 at hik); (try unfold f8 at hik); (try unfold jv_scr at hik); omega) (by (try unfold f1 at hik); (try unfold f2 at hik); (try unfold f3 at hik); (try unfold f4 at hik); (try unfold f5 at hik); (try unfold f6 at hik); (try unfold f7 at hik); (try unfold f8 at hik); (try unfold jv_scr at hik); omega) (by (try unfold f1 at hik); (try unfold f2 at hik); (try unfold f3 at hik); (try unfold f4 at hik); (try unfold f5 at hik); (try unfold f6 at hik); (try unfold f7 at hik); (try unfold f8 at hik); (try unfold jv_scr at hik); omega) (by (try unfold f1 at hik); (try unfold f2 at hik); (try unfold f3 at hik); (try unfold f4 at hik); (try unfold f5 at hik); (try unfold f6 at hik); (try unfold f7 at hik); (try unfold f8 at hik); (try unfold jv_scr at hik); omega) (by (try unfold f1 at hik); (try unfold f2 at hik); (try unfold f3 at hik); (try unfold f4 at hik); (try unfold f5 at hik); (try unfold f6 at hik); (try unfold f7 at hik); (try unfold f8 at hik); (try unfold jv_scr at hik); omega) (by (try unfold f1 at hik); (try unfold f2 at hik); (try unfold f3 at hik); (try unfold f4 at hik); (try unfold f5 at hik); (try unfold f6 at hik); (try unfold f7 at hik); (try unfold f8 at hik); (try unfold jv_scr at hik); omega) (by (try unfold f1 at hik); (try unfold f2 at hik); (try unfold f3 at hik); (try unfold f4 at hik); (try unfold f5 at hik); (try unfold f6 at hik); (try unfold f7 at hik); (try unfold f8 at hik); (try unfold jv_scr at hik); omega)
  · by_cases q : i < 126
    · exact lg0 i k (by (try unfold f1 at hik); (try unfold f2 at hik); (try unfold f3 at hik); (try unfold f4 at hik); (try unfold f5 at hik); (try unfold f6 at hik); (try unfold f7 at hik); (try unfold f8 at hik); (try unfold jv_scr at hik); omega) (by (try unfold f1 at hik); (try unfold f2 at hik); (try unfold f3 at hik); (try unfold f4 at hik); (try unfold f5 at hik); (try unfold f6 at hik); (try unfold f7 at hik); (try unfold f8 at hik); (try unfold jv_scr at hik); omega) (by (try unfold f1 at hik); (try unfold f2 at hik); (try unfold f3 at hik); (try unfold f4 at hik); (try unfold f5 at hik); (try unfold f6 at hik); (try unfold f7 at hik); (try unfold f8 at hik); (try unfold jv_scr at hik); omega)
    · exact hi i k (by (try unfold f1 at hik); (try unfold f2 at hik); (try unfold f3 at hik); (try unfold f4 at hik); (try unfold f5 at hik); (try unfold f6 at hik); (try unfold f7 at hik); (try unfold f8 at hik); (try unfold jv_scr at hik); omega) (by (try unfold f1 at hik); (try unfold f2 at hik); (try unfold f3 at hik); (try unfold f4 at hik); (try unfold f5 at hik); (try unfold f6 at hik); (try unfold f7 at hik); (try unfold f8 at hik); (try unfold jv_scr at hik); omega) (by (try unfold f1 at hik); (try unfold f2 at hik); (try unfold f3 at hik); (try unfold f4 at hik); (try unfold f5 at hik); (try unfold f6 at hik); (try unfold f7 at hik); (try unfold f8 at hik); (try unfold jv_scr at hik); omega) (by (try unfold f1 at hik); (try unfold f2 at hik); (try unfold f3 at hik); (try unfold f4 at hik); (try unfold f5 at hik); (try unfold f6 at hik); (try unfold f7 at hik); (try unfold f8 at hik); (try unfold jv_scr at hik); omega) (by (try unfold f1 at hik); (try unfold f2 at hik); (try unfold f3 at hik); (try unfold f4 at hik); (try unfold f5 at hik); (try unfold f6 at hik); (try unfold f7 at hik); (try unfold f8 at hik); (try unfold jv_scr at hik); omega) (by (try unfold f1 at hik); (try unfold f2 at hik); (try unfold f3 at hik); (try unfold f4 at hik); (try unfold f5 at hik); (try unfold f6 at hik); (try unfold f7 at hik); (try unfold f8 at hik); (try unfold jv_scr at hik); omega) (by (try unfold f1 at hik); (try unfold f2 at hik); (try unfold f3 at hik); (try unfold f4 at hik); (try unfold f5 at hik); (try unfold f6 at hik); (try unfold f7 at hik); (try unfold f8 at hik); (try unfold jv_scr at hik); omega)
  · by_cases q : i < 126
    · exact lg0 i k (by (try unfold f1 at hik); (try unfold f2 at hik); (try unfold f3 at hik); (try unfold f4 at hik); (try unfold f5 at hik); (try unfold f6 at hik); (try unfold f7 at hik); (try unfold f8 at hik); (try unfold jv_scr at hik); omega) (by (try unfold f1 at hik); (try unfold f2 at hik); (try unfold f3 at hik); (try unfold f4 at hik); (try unfold f5 at hik); (try unfold f6 at hik); (try unfold f7 at hik); (try unfold f8 at hik); (try unfold jv_scr at hik); omega) (by (try unfold f1 at hik); (try unfold f2 at hik); (try unfold f3 at hik); (try unfold f4 at hik); (try unfold f5 at hik); (try unfold f6 at hik); (try unfold f7 at hik); (try unfold f8 at hik); (try unfold jv_scr at hik); omega)
    · exact hi i k (by (try unfold f1 at hik); (try unfold f2 at hik); (try unfold f3 at hik); (try unfold f4 at hik); (try unfold f5 at hik); (try unfold f6 at hik); (try unfold f7 at hik); (try unfold f8 at hik); (try unfold jv_scr at hik); omega) (by (try unfold f1 at hik); (try unfold f2 at hik); (try unfold f3 at hik); (try unfold f4 at hik); (try unfold f5 at hik); (try unfold f6 at hik); (try unfold f7 at hik); (try unfold f8 at hik); (try unfold jv_scr at hik); omega) (by (try unfold f1 at hik); (try unfold f2 at hik); (try unfold f3 at hik); (try unfold f4 at hik); (try unfold f5 at hik); (try unfold f6 at hik); (try unfold f7 at hik); (try unfold f8 at hik); (try unfold jv_scr at hik); omega) (by (try unfold f1 at hik); (try unfold f2 at hik); (try unfold f3 at hik); (try unfold f4 at hik); (try unfold f5 at hik); (try unfold f6 at hik); (try unfold f7 at hik); (try unfold f8 at hik); (try unfold jv_scr at hik); omega) (by (try unfold f1 at hik); (try unfold f2 at hik); (try unfold f3 at hik); (try unfold f4 at hik); (try unfold f5 at hik); (try unfold f6 at hik); (try unfold f7 at hik); (try unfold f8 at hik); (try unfold jv_scr at hik); omega) (by (try unfold f1 at hik); (try unfold f2 at hik); (try unfold f3 at hik); (try unfold f4 at hik); (try unfold f5 at hik); (try unfold f6 at hik); (try unfold f7 at hik); (try unfold f8 at hik); (try unfold jv_scr at hik); omega) (by (try unfold f1 at hik); (try unfold f2 at hik); (try unfold f3 at hik); (try unfold f4 at hik); (try unfold f5 at hik); (try unfold f6 at hik); (try unfold f7 at hik); (try unfold f8 at hik); (try unfold jv_scr at hik); omega)
  · unfold iJ6
    rw [i9, i11, hi 126 16 (by omega) (by omega) (by omega) (by omega) (by omega) (by omega) (by omega)]
    have pr : ∀ q j k, 0 ≤ q → q < 20 → 0 ≤ j → j < 3 → ¬ (q = p ∧ j = 0 ∧ (k = 3 ∨ k = 4)) → gc (30 + 3 * q + j) k = g (30 + 3 * q + j) k := fun q j k q0 q1 x0 x1 x2 => lg _ k (by omega) (by omega) (by omega) (by omega) (fun ⟨s', s0', s1', hs⟩ => by omega)
    refine ⟨m1, m2, m3, fun q q0 q1 => ?_, fun q q0 q1 => ?_⟩
    · have pr0 := pr q 0 2 q0 (by omega) (by omega) (by omega) (by omega)
      rw [Int.add_zero] at pr0
      obtain ⟨w1, w2, w3, w4, w5⟩ := m4 q q0 q1
      rw [pr0, hi 137 q (by omega) (by omega) (by omega) (by omega) (by omega) (by omega) (by omega)]
      refine ⟨w1, w2, w3, fun c c0 c1' => ?_, fun c c0 c1' => ?_⟩
      · rw [pr q 1 c q0 (by omega) (by omega) (by omega) (by omega), hi 138 _ (by omega) (by omega) (by omega) (by omega) (by omega) (by omega) (by omega)]; exact w4 c c0 c1'
      · rw [pr q 2 c q0 (by omega) (by omega) (by omega) (by omega), hi 139 _ (by omega) (by omega) (by omega) (by omega) (by omega) (by omega) (by omega)]; exact w5 c c0 c1'
    · by_cases eq : q = p
      · subst eq
        rw [lo _ 3 (by omega), lo _ 4 (by omega), d7, d8, c140]
        exact ⟨rfl, hst.2.1, hst.2.2, hst.1, fun h => by omega⟩
      · have pr3 := pr q 0 3 q0 q1 (by omega) (by omega) (by omega)
        have pr4 := pr q 0 4 q0 q1 (by omega) (by omega) (by omega)
        rw [Int.add_zero] at pr3 pr4
        rw [pr3, pr4, hi 140 q (by omega) (by omega) (by omega) (by omega) (by omega) (by omega) (by omega)]
        exact m5 q q0 q1
  · unfold iJ7
    rw [i0, hi 126 22 (by omega) (by omega) (by omega) (by omega) (by omega) (by omega) (by omega)]
    refine ⟨n1, n2, n3, fun s s0 s1 => ?_, fun s s0 s1 => ?_⟩
    · obtain ⟨w1, w2, w3, w4, w5, w6, w7, w8⟩ := n4 s s0 s1
      have hpb := @iv_pb_r (g (90 + 6 * s + 4)) w p 9 (fun c c0 c1' => by have := paid s s0 (by omega) p c hp.1 l1 c0 (by omega); omega)
      have e91 := lgs s 1 2 s0 (by omega) (by omega) (by omega) (by omega) (by omega)
      have e92 : ∀ k, gc (90 + 6 * s + 1 + 1) k = g (90 + 6 * s + 1 + 1) k := fun k => by
        have := lgs s 2 k s0 (by omega) (by omega) (by omega) (by omega) (by omega)
        have e2 : 90 + 6 * s + 1 + 1 = 90 + 6 * s + 2 := by omega
        rw [e2]; exact this
      rw [lo _ 3 (by omega), (d9 s s0 s1).1, z1 s s0 (by omega), if_pos s1, w1, e91, hi 142 s (by omega) (by omega) (by omega) (by omega) (by omega) (by omega) (by omega)]
      refine ⟨rfl, by omega, by omega, w4, w5, w6, fun q c q0 q1 c0 c1' => ?_, fun d x0 x1 => ?_⟩
      · rw [e92, hi 144 _ (by omega) (by omega) (by omega) (by omega) (by omega) (by omega) (by omega)]; exact w7 q c q0 q1 c0 c1'
      · rw [lo _ d (by omega), (d9 s s0 s1).2 d, z3 s d s0 (by omega) x0 x1, if_pos s1]
    · obtain ⟨w1, w2, w3, w4⟩ := n5 s s0 s1
      refine ⟨fun q c q0 q1 c0 c1' => ?_, fun d x0 x1 => ?_, fun q q0 q1 => ?_, fun q c q0 q1 c0 c1' => ?_⟩
      · rw [hi 144 _ (by omega) (by omega) (by omega) (by omega) (by omega) (by omega) (by omega)]; exact w1 q c q0 q1 c0 c1'
      · rw [z3 s d s0 s1 x0 x1]
        by_cases el : s < g 0 10
        · rw [if_pos el]
          exact ⟨(ex_j j5 j6 j7 (m := m) s0 el hp.1 hp.2).2.2.2.2.1 d x0 x1, fun h => by omega⟩
        · rw [if_neg el]; exact w2 d x0 x1
      · rw [lgs s 5 q s0 s1 (by omega) (by omega) (by omega) (by omega), hi 146 _ (by omega) (by omega) (by omega) (by omega) (by omega) (by omega) (by omega)]
        have := w3 q q0 q1
        exact ⟨this.1, this.2.1, by omega⟩
      · obtain ⟨v1, v2, v3, v4⟩ := w4 q c q0 q1 c0 c1'
        rw [lgs s 4 _ s0 s1 (by omega) (by omega) (by omega) (by omega), z2 s q c s0 s1 q0 q1 c0 c1']
        refine ⟨v1, v2, ?_, v4⟩
        have hbb := hbits c c0 c1'
        have cb := ib_ce he.1 he.2 c0 c1'
        by_cases eq : q = p
        · subst eq
          rw [lo _ 4 (by omega), d8, v3, l5]
          by_cases h0 : iv_bit (iv_op (g 140 q)) c = 0
          · rw [if_pos h0] at hbb ⊢
            rcases cb with cb | cb
            · rw [if_neg (fun hh => by omega), if_pos (by omega)]
            · by_cases el : s < g 0 10
              · rw [if_pos ⟨el, rfl, by omega⟩, if_neg (by omega)]
              · rw [if_neg (fun hh => el hh.1), if_neg (by omega)]; exact v4 (by omega)
          · rw [if_neg h0] at hbb ⊢
            rw [if_neg (show ¬ iv_bit m c = 0 by omega)]
            split <;> rfl
        · have pr4 : gc (30 + 3 * q) 4 = g (30 + 3 * q) 4 := lg _ 4 (by omega) (by omega) (by omega) (by omega) (fun ⟨s', s0', s1', hs⟩ => by omega)
          rw [if_neg (fun hh => eq hh.2.1), pr4]; exact v3
  · have en : (((g 21 4).toNat : Nat) : Int) = g 21 4 := by omega
    have en1 : (g 21 4 + 1).toNat = (g 21 4).toNat + 1 := by omega
    have E0 : gc 21 4 = g 21 4 + 1 := by rw [lo 21 4 (by omega)]; exact d2
    have E1 : ∀ k, gc 22 k = if k = g 21 4 then -1 else g 22 k := fun k => by rw [lo 22 k (by omega)]; exact d3 k
    have E2 : ∀ k, gc 23 k = if k = g 21 4 then p else g 23 k := fun k => by rw [lo 23 k (by omega)]; exact d4 k
    have E3 : ∀ k, gc 24 k = if k = g 21 4 then e else g 24 k := fun k => by rw [lo 24 k (by omega)]; exact d5 k
    have E4 : ∀ k, gc 25 k = if k = g 21 4 then g 0 11 else g 25 k := fun k => by rw [lo 25 k (by omega)]; exact d6 k
    have row : ∀ e', 0 ≤ e' → e' < ((g 21 4).toNat : Int) → gc 22 e' = g 22 e' ∧ gc 23 e' = g 23 e' ∧ gc 24 e' = g 24 e' ∧ gc 25 e' = g 25 e' := fun e' e0 e1 => by
      rw [E1, E2, E3, E4, if_neg (by omega), if_neg (by omega), if_neg (by omega), if_neg (by omega)]; exact ⟨rfl, rfl, rfl, rfl⟩
    have r137 : gc 137 = g 137 := funext fun k => hi 137 k (by omega) (by omega) (by omega) (by omega) (by omega) (by omega) (by omega)
    have cro : iv_ro (gc 22) (gc 23) (gc 24) (g 21 4).toNat = iv_ro (g 22) (g 23) (g 24) (g 21 4).toNat := iv_ro_congr (fun e e0 e1 => ⟨(row e e0 e1).1, (row e e0 e1).2.1, (row e e0 e1).2.2.1⟩)
    have crr : ∀ s', iv_rr (gc 22) (gc 23) (gc 24) (gc 25) s' (g 21 4).toNat = iv_rr (g 22) (g 23) (g 24) (g 25) s' (g 21 4).toNat := fun s' => iv_rr_congr (fun e e0 e1 => row e e0 e1)
    have crc : ∀ s' o, iv_rc (gc 22) (gc 23) (gc 24) (gc 25) (gc 137) s' o (g 21 4).toNat = iv_rc (g 22) (g 23) (g 24) (g 25) (g 137) s' o (g 21 4).toNat := fun s' o => iv_rc_congr (fun e e0 e1 => ⟨(row e e0 e1).1, (row e e0 e1).2.1, (row e e0 e1).2.2.1, (row e e0 e1).2.2.2, by rw [r137]⟩)
    have w22 : gc 22 (g 21 4) = -1 := by rw [E1, if_pos rfl]
    have w23 : gc 23 (g 21 4) = p := by rw [E2, if_pos rfl]
    have w24 : gc 24 (g 21 4) = e := by rw [E3, if_pos rfl]
    have w25 : gc 25 (g 21 4) = g 0 11 := by rw [E4, if_pos rfl]
    have nro : ∀ q, 0 ≤ q → q < 20 → iv_ro (gc 22) (gc 23) (gc 24) ((g 21 4).toNat + 1) q = if q = p then m else g (30 + 3 * q) 4 := fun q q0 q1 => by
      simp only [iv_ro]; rw [en, w22, w23, w24, cro]
      by_cases eq : q = p
      · rw [if_pos ⟨rfl, eq⟩, if_pos eq, y5 q q0 q1, eq, l5, hm]
      · rw [if_neg (fun hh => eq hh.2), if_neg eq]; exact y5 q q0 q1
    have nrr : ∀ s' k, 0 ≤ s' → iv_rr (gc 22) (gc 23) (gc 24) (gc 25) s' ((g 21 4).toNat + 1) k = iv_rr (g 22) (g 23) (g 24) (g 25) s' (g 21 4).toNat k := fun s' k h => by
      simp only [iv_rr]; rw [en, w22, if_neg (fun hh => by omega), crr]
    unfold iJ8
    rw [E0, i9, i0, en1]
    have j52 := j5.2.1
    have j53 := j5.2.2
    refine ⟨by omega, y2, by omega, fun e' e0 e1 => ?_, fun q q0 q1 => ?_, fun s q0 q1 => ⟨fun k k0 k1' => ?_, fun d x0 x1 => ?_⟩⟩
    · by_cases ee : e' = g 21 4
      · rw [ee, w22, w23, w24, w25]; omega
      · obtain ⟨r1, r2, r3, r4⟩ := row e' e0 (by omega)
        rw [r1, r2, r3, r4]; exact y4 e' e0 (by omega)
    · rw [nro q q0 q1]
      by_cases eq : q = p
      · rw [if_pos eq, eq, lo _ 4 (by omega)]; exact d8.symm
      · rw [if_neg eq]
        exact (lg _ 4 (by omega) (by omega) (by omega) (by omega) (fun ⟨s', s0', s1', hs⟩ => by omega)).symm
    · rw [nrr s k q0, (y6 s q0 q1).1 k k0 k1']
      have := lgs s 2 k q0 (by omega) (by omega) (by omega) (by omega) (by omega)
      have e2 : 90 + 6 * s + 1 + 1 = 90 + 6 * s + 2 := by omega
      rw [e2]; exact this.symm
    · rw [hi 142 s (by omega) (by omega) (by omega) (by omega) (by omega) (by omega) (by omega)]
      have hsl : iv_sl (iv_rr (gc 22) (gc 23) (gc 24) (gc 25) s ((g 21 4).toNat + 1)) p (iv_ro (gc 22) (gc 23) (gc 24) ((g 21 4).toNat + 1) p) (gc 137 p) = iv_jv g p m s := by
        rw [nro p hp.1 l1, if_pos rfl, r137]
        refine iv_sl_congr (fun x x0' x1' => ?_)
        rw [nrr s _ q0]; exact (y6 s q0 q1).1 _ (by omega) (by omega)
      have e0 : iv_rc (gc 22) (gc 23) (gc 24) (gc 25) (gc 137) s (g 142 s) ((g 21 4).toNat + 1) d = iv_sc (iv_sl (iv_rr (gc 22) (gc 23) (gc 24) (gc 25) s ((g 21 4).toNat + 1)) (gc 23 (((g 21 4).toNat : Nat) : Int)) (iv_ro (gc 22) (gc 23) (gc 24) ((g 21 4).toNat + 1) (gc 23 (((g 21 4).toNat : Nat) : Int))) (gc 137 (gc 23 (((g 21 4).toNat : Nat) : Int)))) (g 142 s) d (iv_rc (gc 22) (gc 23) (gc 24) (gc 25) (gc 137) s (g 142 s) (g 21 4).toNat d) := by
        show (if _ then _ else _) = _
        rw [if_pos (by rw [en, w22]; exact Or.inl rfl)]
      rw [e0, en, w23, hsl, crc, (y6 s q0 q1).2 d x0 x1, lo _ d (by omega), (d9 s q0 q1).2 d]
      rfl
theorem t_judge {x4 p e : Int} {Q : Int → jv_Mem → Prop} {g : jv_Mem} (hI : iJ x4 g) (hx2 : x4 ≤ 2500) (hp : 0 ≤ p ∧ p < g 0 9) (he : 0 ≤ e ∧ e < 6) (hN : iv_bit (g 140 p) e = 1 → Q (-3) g)
    (hY : iv_bit (g 140 p) e = 0 → ∀ (r : Int) (gc : jv_Mem), 0 ≤ r → r ≤ g 0 10 → iJ (x4 + 5) gc → iv_cn5 g gc → (iv_R g → iv_R gc) → (∀ s, 0 ≤ s → s < g 0 10 → g 143 s ≤ gc 143 s) → iv_bit (gc 140 p) e = 1 → Q r gc) : wp_L_judge p e Q g := by
  obtain ⟨hx, j1, j2, j3, j4, j5, j6, j7, j8⟩ := id hI
  obtain ⟨n1, n2, n3, n4, n5⟩ := id j7
  obtain ⟨l1, l2, l3, l4, l5, l6, l7, l8, l9⟩ := ex_p j6 hp.1 hp.2
  unfold wp_L_judge
  refine u_judgeX j5 j6 j7 j8 (by omega) hp he (fun hb ga JX => ?_) (fun h => ⟨rfl, hN h⟩)
  have hjl := @iv_jl_r g p (jv_or (iv_op (g 140 p)) (iv_ce e)) (g 0 10).toNat
  generalize hm : jv_or (iv_op (g 140 p)) (iv_ce e) = m at JX hjl ⊢
  generalize hw : jv_and (iv_ce e) (jv_xor (iv_op (g 140 p)) (-1)) = w
  generalize hgc : (fun i k => if i = 143 then (if 0 ≤ k ∧ k < g 0 10 then g 143 k + iv_pb (g (90 + 6 * k + 4)) w p 9 else g 143 k) else if i = 145 then (if k / 180 < g 0 10 ∧ k % 180 / 9 = p ∧ iv_bit w (k % 9) ≠ 0 then 0 else g 145 k) else if i = 147 then (if k / 1260 < g 0 10 then iv_jc g p m (k / 1260) (k % 1260) else g 147 k) else if i = 140 ∧ k = p then jv_or (g 140 p) (jv_shl 1 e) else ga i k : jv_Mem) = gc
  have c143 : ∀ k, gc 143 k = if 0 ≤ k ∧ k < g 0 10 then g 143 k + iv_pb (g (90 + 6 * k + 4)) w p 9 else g 143 k := fun k => by rw [← hgc]; exact if_pos rfl
  have c145 : ∀ k, gc 145 k = if k / 180 < g 0 10 ∧ k % 180 / 9 = p ∧ iv_bit w (k % 9) ≠ 0 then 0 else g 145 k := fun k => by rw [← hgc]; exact (if_neg (by omega)).trans (if_pos rfl)
  have c147 : ∀ k, gc 147 k = if k / 1260 < g 0 10 then iv_jc g p m (k / 1260) (k % 1260) else g 147 k := fun k => by rw [← hgc]; exact (if_neg (by omega)).trans ((if_neg (by omega)).trans (if_pos rfl))
  have c140 : gc 140 p = jv_or (g 140 p) (jv_shl 1 e) := by rw [← hgc]; exact (if_neg (by omega)).trans ((if_neg (by omega)).trans ((if_neg (by omega)).trans (if_pos ⟨rfl, rfl⟩)))
  have coth : ∀ i k, ¬ (i = 143 ∨ i = 145 ∨ i = 147 ∨ (i = 140 ∧ k = p)) → gc i k = ga i k := fun i k z => by rw [← hgc]; exact (if_neg (by omega)).trans ((if_neg (by omega)).trans ((if_neg (by omega)).trans (if_neg (by omega))))
  clear hgc
  have d1 := JX.1
  have cg : ∀ i k, ¬ ((22 ≤ i ∧ i ≤ 25) ∨ (i = 21 ∧ k = 4) ∨ (30 ≤ i ∧ i < 126) ∨ i = 143 ∨ i = 145 ∨ i = 147 ∨ i = 140) → gc i k = g i k := fun i k z => by
    rw [coth i k (by omega)]; exact d1 i k (by omega) (by omega) (by omega) (fun ⟨s, s0, s1, hs⟩ => by omega)
  have I' : iJ (x4 + 5) gc := by
    refine hI.judge hp he hm hw JX (fun i k h => coth i k (by omega)) (fun i k i0 i1 x1 x2 x3 x4 x5 => by rw [coth i k (by omega)]; exact d1 i k (by omega) (by omega) (by omega) (fun ⟨s, s0, s1, hs⟩ => by omega)) c140 (fun s s0 s1 => ?_) (fun s q c s0 s1 q0 q1 c0 c1 => ?_) (fun s d s0 s1 d0 d1 => ?_)
    · rw [c143]
      by_cases h : s < g 0 10
      · rw [if_pos ⟨s0, h⟩, if_pos h]
      · rw [if_neg (fun hh => h hh.2), if_neg h]
    · rw [c145, show (((180 * s) + (9 * q)) + c) / 180 = s by omega, show (((180 * s) + (9 * q)) + c) % 180 / 9 = q by omega, show (((180 * s) + (9 * q)) + c) % 9 = c by omega]
    · rw [c147, show ((1260 * s) + d) / 1260 = s by omega, show ((1260 * s) + d) % 1260 = d by omega]
  have en : gc 0 10 = g 0 10 := cg 0 10 (by omega)
  have e11 : gc 0 11 = g 0 11 := cg 0 11 (by omega)
  refine ⟨gc, fun i k h => coth i k (by omega), hY hb _ gc hjl.1 (by omega) I' ⟨cg 3 6 (by omega), cg 14 4 (by omega), cg 0 9 (by omega), en, e11⟩ (fun hR s k s0 s1 k0 k1 => ?_) (fun s s0 s1 => ?_) (by rw [c140]; exact ib_j1 l6 l7 he.1 he.2)⟩
  · rw [en] at s1
    rw [e11, coth _ k (by omega), d1 _ k (by omega) (by omega) (by omega) (fun ⟨s', s0', s1', hs⟩ => by omega)]
    exact hR s k s0 s1 k0 k1
  · have hpb := @iv_pb_r (g (90 + 6 * s + 4)) w p 9 (fun c c0 c1 => by have := (n5 s s0 (by omega)).2.2.2 p c hp.1 l1 c0 (by omega); omega)
    rw [c143, if_pos ⟨s0, s1⟩]
    omega
