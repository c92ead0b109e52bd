/-! streaks and solved puzzles, of the house and of the reference -/
def iv_ks (g : jv_Mem) (s : Int) : Int := iv_stk (g (90 + 6 * s + 1 + 2)) (iv_day (g (90 + 6 * s + 1) 2) (g 0 11))
theorem ex_s {x4 : Int} {g : jv_Mem} (h : iJ7 x4 g) {s : Int} (s0 : 0 ≤ s) (s1 : s < g 0 10) : s < 6 ∧ g (90 + 6 * s) 3 = g 143 s ∧ 0 ≤ g 143 s ∧ g 143 s ≤ 1000 + 72 * x4 ∧ g (90 + 6 * s + 1) 2 = g 142 s ∧ -12 ≤ g 142 s ∧ g 142 s ≤ 14 ∧ (∀ d, 0 ≤ d → d < 1252 → g (90 + 6 * s + 1 + 2) d = g 147 ((1260 * s) + d) ∧ (g (90 + 6 * s + 1 + 2) d = 0 ∨ g (90 + 6 * s + 1 + 2) d = 1)) ∧
    (∀ p c, 0 ≤ p → p < 20 → 0 ≤ c → c < 9 → g (90 + 6 * s + 1 + 1) ((p * 9) + c) = g 144 (((180 * s) + (9 * p)) + c) - 1 ∧ -1 ≤ g (90 + 6 * s + 1 + 1) ((p * 9) + c) ∧ g (90 + 6 * s + 1 + 1) ((p * 9) + c) ≤ 30001) := by
  obtain ⟨a, b, c, d, e⟩ := h
  obtain ⟨d1, d2, d3, d4, d5, d6, d7, d8⟩ := d s s0 s1
  obtain ⟨e1, e2, -⟩ := e s s0 (by omega)
  refine ⟨by omega, d1, d2, d3, d4, d5, d6, fun k k0 k1 => ⟨d8 k k0 k1, by rw [d8 k k0 k1]; exact (e2 k k0 k1).1⟩, fun p c p0 p1 c0 c1 => ⟨d7 p c p0 p1 c0 c1, ?_⟩⟩
  have := e1 p c p0 p1 c0 c1
  rw [d7 p c p0 p1 c0 c1]; omega
theorem iv_day_r {o h : Int} (h0 : 0 ≤ h) (h1 : h ≤ 30001) (o0 : -12 ≤ o) (o1 : o ≤ 14) : 0 ≤ iv_day o h ∧ iv_day o h < 1252 := by unfold iv_day; omega
theorem u_kept {x4 s : Int} {Q : Int → jv_Mem → Prop} {g : jv_Mem} (h5 : iJ5 g) (h7 : iJ7 x4 g) (s0 : 0 ≤ s) (s1 : s < g 0 10) (hQ : Q (iv_ks g s) g) : wp_X8_keptStreak s Q g := by
  obtain ⟨k1, k2, k3, k4, k5, k6, k7, k8, k9⟩ := ex_s h7 s0 s1
  unfold wp_X8_keptStreak
  refine ⟨⟨s0, k1⟩, u_daysInARow (by omega) (by omega) h5.2.1 h5.2.2 (fun k q0 q1 => ?_) hQ⟩
  have := (k8 k q0 q1).2
  unfold jv_r; omega
theorem u_streakJ {x4 s : Int} {Q : Int → jv_Mem → Prop} {g : jv_Mem} (h5 : iJ5 g) (h7 : iJ7 x4 g) (s0 : 0 ≤ s) (s1 : s < g 0 10) (hQ : Q (iv_ks g s) g) : wp_X9_streakOf s Q g := by
  obtain ⟨k1, k2, k3, k4, k5, k6, k7, k8, k9⟩ := ex_s h7 s0 s1
  refine u_streakOf (f := g (90 + 6 * s + 1 + 2)) s0 k1 k6 k7 (by rw [h5.1]; exact h5.2.1) (by rw [h5.1]; exact h5.2.2) k8 ?_
  unfold iv_ks at hQ
  rw [k5] at hQ
  rw [h5.1]
  exact hQ
theorem iv_ks_r {x4 s : Int} {g : jv_Mem} (h5 : iJ5 g) (h7 : iJ7 x4 g) (s0 : 0 ≤ s) (s1 : s < g 0 10) : 0 ≤ iv_ks g s ∧ iv_ks g s ≤ 1252 := by
  obtain ⟨k1, k2, k3, k4, k5, k6, k7, k8, k9⟩ := ex_s h7 s0 s1
  have hd := @iv_day_r (g (90 + 6 * s + 1) 2) (g 0 11) h5.2.1 (by have := h5.2.2; omega) (by omega) (by omega)
  have := @iv_stk_nn (g (90 + 6 * s + 1 + 2)) _ hd.1
  unfold iv_ks; omega
theorem iv_ks_fr {g g' : jv_Mem} (h : ∀ i k, ¬ jv_scr i k → g' i k = g i k) {s : Int} (s0 : 0 ≤ s) (s1 : s < 6) : iv_ks g' s = iv_ks g s := by
  unfold iv_ks
  have e1 : g' (90 + 6 * s + 1 + 2) = g (90 + 6 * s + 1 + 2) := funext fun k => h _ k (by unfold jv_scr; omega)
  rw [e1, h (90 + 6 * s + 1) 2 (by unfold jv_scr; omega), h 0 11 (by unfold jv_scr; omega)]
theorem cs_28 {L : Nat} {xs : Nat → Int32} (hL : L ≤ 2560) : ∀ (x4 : Int) (g : jv_Mem), 0 ≤ x4 → x4 + 4 < ((L : Nat) : Int) → iJ x4 g → wp_LC_28 xs L x4 (iJ (x4 + 5)) g := by
  intro x4 g h0 h4 hI
  obtain ⟨hx, j1, j2, j3, j4, j5, j6, j7, j8⟩ := id hI
  have ra := jv_sx_r xs (x4 + 1)
  unfold wp_LC_28 wp_L_streak wp_X8_streak
  generalize jv_sx xs (x4 + 1) = a at ra ⊢
  have ra' := ra
  obtain ⟨ra0, ra1⟩ := ra
  obtain ⟨n1, n2, n3, -⟩ := id j7
  refine ⟨by omega, u_needIndex ra' (by unfold jv_r; omega) (fun ha => ?_) (fun ha => ⟨rfl, by omega, ?_⟩)⟩
  · have hr := iv_ks_r j5 j7 ha.1 ha.2
    refine u_kept j5 j7 ha.1 ha.2 ⟨(by unfold jv_r; omega), by omega, ?_⟩
    rintro g1 rfl
    refine ⟨by omega, ?_⟩
    unfold wp_X9_streak
    have q1 : jv_up g 148 0 (iv_ks g a) 126 22 = g 0 10 := by rw [jv_up_n (by omega)]; exact n1
    refine u_isSolver ra' (by rw [q1]; omega) (fun _ => ⟨(by unfold jv_r; omega), fun h9 => by omega, fun _ => ?_⟩) (fun h => absurd ha (by rw [q1] at h; exact h))
    rintro g2 rfl
    have q2 : jv_up (jv_up g 148 0 (iv_ks g a)) 126 29 0 126 29 = 0 := jv_up_e rfl rfl
    rw [q2]
    refine ⟨(by unfold jv_r; omega), fun h9 => absurd rfl h9, fun _ => ?_⟩
    have fr : ∀ i k, ¬ jv_scr i k → jv_up (jv_up g 148 0 (iv_ks g a)) 126 29 0 i k = g i k := fun i k hik => by unfold jv_scr at hik; rw [jv_up_n (by omega), jv_up_n (by omega)]
    have hJ := hI.fr (x4' := x4 + 5) (by omega) fr
    obtain ⟨-, -, -, -, -, i5, -, i7, -⟩ := id hJ
    refine u_streakJ i5 i7 ha.1 (by rw [fr 0 10 (by unfold jv_scr; omega)]; exact ha.2) ?_
    rw [iv_ks_fr fr ha.1 (by omega)]
    exact lc_end q2 (by unfold jv_r; omega) (fun _ => ⟨(by first | omega | (simp (disch := omega) only [jv_up_e, jv_up_i, jv_up_k]; done) | (simp (disch := omega) only [jv_up_e, jv_up_i, jv_up_k]; omega)), (by unfold jv_r; omega)⟩) hJ
  · unfold wp_X9_streak
    refine u_isSolver ra' (by omega) (fun h => absurd h (by omega)) (fun _ => ⟨(by unfold jv_r; omega), fun _ => ?_, fun h9 => absurd rfl h9⟩)
    rintro g2 rfl
    have q2 : jv_up g 126 29 1 126 29 = 1 := jv_up_e rfl rfl
    rw [q2]
    refine ⟨(by unfold jv_r; omega), fun _ => ?_, fun h9 => absurd h9 (by omega)⟩
    exact lc_end (by first | omega | (simp (disch := omega) only [jv_up_e, jv_up_i, jv_up_k]; done) | (simp (disch := omega) only [jv_up_e, jv_up_i, jv_up_k]; omega)) (by unfold jv_r; omega) (fun h => absurd h (by omega)) (hI.fr (by omega) (by (intro i k hik; (try unfold f1 at hik); (try unfold f2 at hik); (try unfold f3 at hik); (try unfold f4 at hik); (try unfold f5 at hik); (try unfold f6 at hik); (try unfold f7 at hik); (try unfold f8 at hik); (try unfold jv_scr at hik); repeat rw [jv_up_n (by omega)])))
theorem ex_p {g : jv_Mem} (h : iJ6 g) {p : Int} (p0 : 0 ≤ p) (p1 : p < g 0 9) : p < 20 ∧ g (30 + 3 * p) 2 = g 137 p ∧ 0 ≤ g 137 p ∧ g 137 p ≤ g 0 11 ∧ g (30 + 3 * p) 4 = iv_op (g 140 p) ∧ 0 ≤ g 140 p ∧ g 140 p < 64 ∧ 0 ≤ iv_op (g 140 p) ∧ iv_op (g 140 p) < 512 := by
  obtain ⟨a, b, c, d, e⟩ := h
  obtain ⟨d1, d2, d3, -⟩ := d p p0 p1
  obtain ⟨e1, e2, e3, e4, -⟩ := e p p0 (by omega)
  have := ib_op e2 e3
  exact ⟨by omega, d1, d2, d3, e4, e2, e3, this.1, this.2⟩
theorem cs_25 {L : Nat} {xs : Nat → Int32} (hL : L ≤ 2560) : ∀ (x4 : Int) (g : jv_Mem), 0 ≤ x4 → x4 + 4 < ((L : Nat) : Int) → iJ x4 g → wp_LC_25 xs L x4 (iJ (x4 + 5)) g := by
  intro x4 g h0 h4 hI
  obtain ⟨hx, j1, j2, j3, j4, j5, j6, j7, j8⟩ := id hI
  have ra := jv_sx_r xs (x4 + 1)
  have rb := jv_sx_r xs (x4 + 2)
  unfold wp_LC_25 wp_L_solvedAt wp_X8_solvedAt
  generalize jv_sx xs (x4 + 1) = a at ra ⊢
  generalize jv_sx xs (x4 + 2) = b at rb ⊢
  have ra' := ra
  obtain ⟨ra0, ra1⟩ := ra
  have rb' := rb
  obtain ⟨rb0, rb1⟩ := rb
  obtain ⟨n1, n2, n3, -⟩ := id j7
  obtain ⟨m1, m2, m3, -⟩ := id j6
  have j53 := j5.2.2
  have bad : ¬ ((0 ≤ a ∧ a < g 0 10) ∧ (0 ≤ b ∧ b < g 0 9)) → wp_X9_solvedAt a b (fun (r_1420 : Int) (g_1420 : jv_Mem) => (wp_X9_thrown (fun (r_1426 : Int) (g_1426 : jv_Mem) => ((jv_r r_1426 ∧ jv_r 1) ∧ (r_1426 = 1 → ((jv_r 1) ∧ (¬ (1 : Int) = 0 → wB_LC_25_1452 (iJ (x4 + 5)) g_1426) ∧ ((1 : Int) = 0 → (((0 : Int) ≤ 0 ∧ 0 < (1 : Int)) ∧ (jv_r r_1420 ∧ ((jv_r (g_1426 148 0) ∧ jv_r r_1420) ∧ ((g_1426 148 0) = r_1420 → wB_LC_25_1452 (iJ (x4 + 5)) g_1426) ∧ (¬ (g_1426 148 0) = r_1420 → False))))))) ∧ (¬ r_1426 = 1 → False))) g_1420)) g := by
    intro hb
    unfold wp_X9_solvedAt
    have fin : wB_X9_solvedAt_21 a b (fun (r_1420 : Int) (g_1420 : jv_Mem) => (wp_X9_thrown (fun (r_1426 : Int) (g_1426 : jv_Mem) => ((jv_r r_1426 ∧ jv_r 1) ∧ (r_1426 = 1 → ((jv_r 1) ∧ (¬ (1 : Int) = 0 → wB_LC_25_1452 (iJ (x4 + 5)) g_1426) ∧ ((1 : Int) = 0 → (((0 : Int) ≤ 0 ∧ 0 < (1 : Int)) ∧ (jv_r r_1420 ∧ ((jv_r (g_1426 148 0) ∧ jv_r r_1420) ∧ ((g_1426 148 0) = r_1420 → wB_LC_25_1452 (iJ (x4 + 5)) g_1426) ∧ (¬ (g_1426 148 0) = r_1420 → False))))))) ∧ (¬ r_1426 = 1 → False))) g_1420)) g := by
      rintro g2 rfl
      have q2 : jv_up g 126 29 1 126 29 = 1 := jv_up_e rfl rfl
      rw [q2]
      refine ⟨(by unfold jv_r; omega), fun _ => ?_, fun h9 => absurd h9 (by omega)⟩
      exact lc_end (by first | omega | (simp (disch := omega) only [jv_up_e, jv_up_i, jv_up_k]; done) | (simp (disch := omega) only [jv_up_e, jv_up_i, jv_up_k]; omega)) (by unfold jv_r; omega) (fun h => absurd h (by omega)) (hI.fr (by omega) (by (intro i k hik; (try unfold f1 at hik); (try unfold f2 at hik); (try unfold f3 at hik); (try unfold f4 at hik); (try unfold f5 at hik); (try unfold f6 at hik); (try unfold f7 at hik); (try unfold f8 at hik); (try unfold jv_scr at hik); repeat rw [jv_up_n (by omega)])))
    refine u_isSolver ra' (by omega) (fun h => ⟨(by unfold jv_r; omega), fun h9 => by omega, fun _ => ?_⟩) (fun h => ⟨(by unfold jv_r; omega), fun _ => fin, fun h9 => absurd rfl h9⟩)
    refine u_isPuzzle rb' (by omega) (fun h' => absurd (show (0 ≤ a ∧ a < g 0 10) ∧ (0 ≤ b ∧ b < g 0 9) by omega) hb) (fun h' => ⟨(by unfold jv_r; omega), fun _ => fin, fun h9 => absurd rfl h9⟩)
  refine ⟨by omega, by omega, u_needIndex ra' (by unfold jv_r; omega) (fun ha => ?_) (fun ha => ⟨rfl, by omega, by omega, bad (fun h => ha h.1)⟩)⟩
  refine u_needIndex rb' (by unfold jv_r; omega) (fun hb => ?_) (fun hb => ⟨rfl, by omega, by omega, bad (fun h => hb h.2)⟩)
  obtain ⟨k1, k2, k3, k4, k5, k6, k7, k8, k9⟩ := ex_s j7 ha.1 ha.2
  obtain ⟨l1, l2, l3, l4, l5, l6, l7, l8, l9⟩ := ex_p j6 hb.1 hb.2
  unfold wp_X3_openCells wp_X3_hourOfAppearing
  dsimp only
  rw [l2, l5]
  have hRr : ∀ c, 0 ≤ c → c < 9 → -1 ≤ g (90 + 6 * a + 1 + 1) (b * 9 + c) ∧ g (90 + 6 * a + 1 + 1) (b * 9 + c) ≤ 30001 := fun c c0 c1 => (k9 b c hb.1 l1 c0 c1).2
  have hvr := @iv_sl_r (g (90 + 6 * a + 1 + 1)) b (iv_op (g 140 b)) (g 137 b) hRr (by omega)
  refine ⟨by omega, by omega, u_solvedHour hb.1 l1 l8 l9 hRr ⟨(by unfold jv_r; omega), by omega, ?_⟩⟩
  generalize hv : iv_sl (g (90 + 6 * a + 1 + 1)) b (iv_op (g 140 b)) (g 137 b) = v at hvr ⊢
  rintro g1 rfl
  refine ⟨by omega, by omega, ?_⟩
  unfold wp_X9_solvedAt
  have q1 : jv_up g 148 0 v 126 22 = g 0 10 := by rw [jv_up_n (by omega)]; exact n1
  have q3 : jv_up g 148 0 v 126 16 = g 0 9 := by rw [jv_up_n (by omega)]; exact m1
  refine u_isSolver ra' (by rw [q1]; omega) (fun _ => ⟨(by unfold jv_r; omega), fun h9 => by omega, fun _ => ?_⟩) (fun h => absurd ha (by rw [q1] at h; exact h))
  refine u_isPuzzle rb' (by rw [q3]; omega) (fun _ => ⟨(by unfold jv_r; omega), fun h9 => by omega, fun _ => ?_⟩) (fun h => absurd hb (by rw [q3] at h; exact h))
  rintro g2 rfl
  have q2 : jv_up (jv_up g 148 0 v) 126 29 0 126 29 = 0 := jv_up_e rfl rfl
  rw [q2]
  refine ⟨(by unfold jv_r; omega), fun h9 => absurd rfl h9, fun _ => ?_⟩
  have q140 : jv_up (jv_up g 148 0 v) 126 29 0 140 b = g 140 b := by rw [jv_up_n (by omega), jv_up_n (by omega)]
  have q137 : jv_up (jv_up g 148 0 v) 126 29 0 137 b = g 137 b := by rw [jv_up_n (by omega), jv_up_n (by omega)]
  refine u_solved (R := g (90 + 6 * a + 1 + 1)) ha.1 k1 hb.1 l1 (by rw [q140]; exact l6) (by rw [q140]; exact l7) (fun c c0 c1 => ?_) hRr (by rw [q137]; unfold jv_r; omega) ?_
  · rw [(k9 b c hb.1 l1 c0 c1).1, jv_up_n (by omega), jv_up_n (by omega)]
  · rw [q140, q137, hv]
    exact lc_end q2 (by unfold jv_r; omega) (fun _ => ⟨(by first | omega | (simp (disch := omega) only [jv_up_e, jv_up_i, jv_up_k]; done) | (simp (disch := omega) only [jv_up_e, jv_up_i, jv_up_k]; omega)), (by unfold jv_r; omega)⟩) (hI.fr (by omega) (by (intro i k hik; (try unfold f1 at hik); (try unfold f2 at hik); (try unfold f3 at hik); (try unfold f4 at hik); (try unfold f5 at hik); (try unfold f6 at hik); (try unfold f7 at hik); (try unfold f8 at hik); (try unfold jv_scr at hik); repeat rw [jv_up_n (by omega)])))
/-- ranks -/
def iv_ah (K P : Int → Int) (o s : Int) : Int := if K s < K o ∨ (K s = K o ∧ (P s < P o ∨ (P s = P o ∧ o < s))) then 1 else 0
def iv_rk (K P : Int → Int) (s : Int) : Nat → Int
  | 0 => 0
  | n + 1 => iv_rk K P s n + iv_ah K P (n : Nat) s
theorem iv_rk_r {K P : Int → Int} {s : Int} : ∀ {n : Nat}, 0 ≤ iv_rk K P s n ∧ iv_rk K P s n ≤ n := by
  intro n
  induction n with
  | zero => exact ⟨by simp [iv_rk], by simp [iv_rk]⟩
  | succ n ih => simp only [iv_rk, iv_ah]; split <;> omega
theorem iv_ah_self {K P : Int → Int} {s : Int} : iv_ah K P s s = 0 := by unfold iv_ah; rw [if_neg (by omega)]
def iv_fi (R : Int → Int) (a : Int) : Int → Nat → Int
  | _, 0 => -1
  | s, m + 1 => if R s = a then s else iv_fi R a (s + 1) m
theorem iv_fi_r {R : Int → Int} {a : Int} : ∀ {m : Nat} {s : Int}, 0 ≤ s → -1 ≤ iv_fi R a s m ∧ iv_fi R a s m < s + m := by
  intro m
  induction m with
  | zero => intro s h; simp only [iv_fi]; omega
  | succ m ih =>
    intro s h
    have := @ih (s + 1) (by omega)
    simp only [iv_fi]; split <;> omega
theorem u_rank {x4 s : Int} {Q : Int → jv_Mem → Prop} {g : jv_Mem} (h5 : iJ5 g) (h7 : iJ7 x4 g) (hx : x4 ≤ 2560) (s0 : 0 ≤ s) (s1 : s < g 0 10) (hQ : Q (iv_rk (iv_ks g) (g 143) s (g 0 10).toNat) g) : wp_X8_rank s Q g := by
  obtain ⟨n1, n2, n3, -⟩ := id h7
  unfold wp_X8_rank
  refine ⟨fun n x2 x3 gl => gl = g ∧ 0 ≤ x3 ∧ x3 ≤ g 0 10 ∧ x2 = iv_rk (iv_ks g) (g 143) s x3.toNat ∧ n = (g 0 10 - x3).toNat, ⟨_, rfl, by omega, by omega, rfl, rfl⟩, ?_⟩
  rintro n x2 x3 gl ⟨rfl, a0, a1, a2, a3⟩
  have step : ∀ y : Int, x3 < gl 0 10 → y = x2 + iv_ah (iv_ks gl) (gl 143) x3 s → wB_X8_rank_29 (fun x1' x2' g' => ∃ n', n' < n ∧ g' = gl ∧ 0 ≤ x2' ∧ x2' ≤ gl 0 10 ∧ x1' = iv_rk (iv_ks gl) (gl 143) s x2'.toNat ∧ n' = (gl 0 10 - x2').toNat) x3 y gl := by
    intro y hlt ey v3 e3
    refine ⟨(gl 0 10 - v3).toNat, by omega, rfl, by omega, by omega, ?_, rfl⟩
    have e : v3.toNat = x3.toNat + 1 := by omega
    have e6 : ((x3.toNat : Nat) : Int) = x3 := by omega
    rw [e, ey, a2]; simp only [iv_rk]; rw [e6]
  refine ⟨⟨(by unfold jv_r; omega), (by unfold jv_r; omega)⟩, fun h => ?_, fun h => ⟨⟨(by unfold jv_r; omega), (by unfold jv_r; omega)⟩, fun he => ?_, fun hne => ?_⟩⟩
  · have e : x3 = gl 0 10 := by omega
    rw [a2, e]; exact hQ
  · exact step x2 h (by rw [he, iv_ah_self]; omega)
  · have p1 := ex_s h7 a0 h
    have p2 := ex_s h7 s0 s1
    have q1 := iv_ks_r h5 h7 a0 h
    have q2 := iv_ks_r h5 h7 s0 s1
    have yes : iv_ah (iv_ks gl) (gl 143) x3 s = 1 → ((jv_r 1) ∧ ((1 : Int) = 0 → wB_X8_rank_29 (fun x1' x2' g' => ∃ n', n' < n ∧ g' = gl ∧ 0 ≤ x2' ∧ x2' ≤ gl 0 10 ∧ x1' = iv_rk (iv_ks gl) (gl 143) s x2'.toNat ∧ n' = (gl 0 10 - x2').toNat) x3 x2 gl) ∧ (¬ (1 : Int) = 0 → (∀ v2_26 : Int, v2_26 = x2 + 1 → wB_X8_rank_29 (fun x1' x2' g' => ∃ n', n' < n ∧ g' = gl ∧ 0 ≤ x2' ∧ x2' ≤ gl 0 10 ∧ x1' = iv_rk (iv_ks gl) (gl 143) s x2'.toNat ∧ n' = (gl 0 10 - x2').toNat) x3 v2_26 gl))) := fun h1 => ⟨(by unfold jv_r; omega), fun h9 => absurd h9 (by omega), fun _ v ev => step v h (by rw [h1]; exact ev)⟩
    have no : iv_ah (iv_ks gl) (gl 143) x3 s = 0 → ((jv_r 0) ∧ ((0 : Int) = 0 → wB_X8_rank_29 (fun x1' x2' g' => ∃ n', n' < n ∧ g' = gl ∧ 0 ≤ x2' ∧ x2' ≤ gl 0 10 ∧ x1' = iv_rk (iv_ks gl) (gl 143) s x2'.toNat ∧ n' = (gl 0 10 - x2').toNat) x3 x2 gl) ∧ (¬ (0 : Int) = 0 → (∀ v2_26 : Int, v2_26 = x2 + 1 → wB_X8_rank_29 (fun x1' x2' g' => ∃ n', n' < n ∧ g' = gl ∧ 0 ≤ x2' ∧ x2' ≤ gl 0 10 ∧ x1' = iv_rk (iv_ks gl) (gl 143) s x2'.toNat ∧ n' = (gl 0 10 - x2').toNat) x3 v2_26 gl))) := fun h1 => ⟨(by unfold jv_r; omega), fun _ => step x2 h (by rw [h1]; omega), fun h9 => absurd rfl h9⟩
    unfold wp_X8_isAhead
    refine u_kept h5 h7 a0 h (u_kept h5 h7 s0 s1 ⟨⟨(by unfold jv_r; omega), (by unfold jv_r; omega)⟩, fun he => ⟨by omega, ?_⟩, fun hk => ⟨⟨(by unfold jv_r; omega), (by unfold jv_r; omega)⟩, fun hle => ?_, fun hgt => ?_⟩⟩)
    · unfold wp_X4_purse
      dsimp only
      rw [p1.2.1, p2.2.1]
      refine ⟨by omega, ⟨⟨(by unfold jv_r; omega), (by unfold jv_r; omega)⟩, fun hp => ⟨⟨(by unfold jv_r; omega), (by unfold jv_r; omega)⟩, fun hle => ?_, fun hgt => ?_⟩, fun hp => ⟨⟨(by unfold jv_r; omega), (by unfold jv_r; omega)⟩, fun hle => ?_, fun hgt => ?_⟩⟩⟩
      · exact no (by unfold iv_ah; rw [if_neg (by omega)])
      · exact yes (by unfold iv_ah; rw [if_pos (by omega)])
      · exact no (by unfold iv_ah; rw [if_neg (by omega)])
      · exact yes (by unfold iv_ah; rw [if_pos (by omega)])
    · exact no (by unfold iv_ah; rw [if_neg (by omega)])
    · exact yes (by unfold iv_ah; rw [if_pos (by omega)])
theorem u_solverAtX {x4 a : Int} {Q : Int → jv_Mem → Prop} {g : jv_Mem} (h5 : iJ5 g) (h7 : iJ7 x4 g) (hx : x4 ≤ 2560) (ra : jv_r a) (hQ : Q (iv_fi (fun s => iv_rk (iv_ks g) (g 143) s (g 0 10).toNat) a 0 (g 0 10).toNat) g) : wp_X8_solverAt a Q g := by
  obtain ⟨n1, n2, n3, -⟩ := id h7
  unfold wp_X8_solverAt
  refine ⟨fun n x2 gl => gl = g ∧ 0 ≤ x2 ∧ x2 ≤ g 0 10 ∧ iv_fi (fun s => iv_rk (iv_ks g) (g 143) s (g 0 10).toNat) a x2 (g 0 10 - x2).toNat = iv_fi (fun s => iv_rk (iv_ks g) (g 143) s (g 0 10).toNat) a 0 (g 0 10).toNat ∧ n = (g 0 10 - x2).toNat, ⟨_, rfl, by omega, by omega, by rw [Int.sub_zero], rfl⟩, ?_⟩
  rintro n x2 gl ⟨rfl, a0, a1, a2, a3⟩
  refine ⟨⟨(by unfold jv_r; omega), (by unfold jv_r; omega)⟩, fun h => ?_, fun h => u_rank h5 h7 hx a0 h ?_⟩
  · have e : (gl 0 10 - x2).toNat = 0 := by omega
    rw [e] at a2
    rw [← a2] at hQ; exact hQ
  · have e : (gl 0 10 - x2).toNat = (gl 0 10 - (x2 + 1)).toNat + 1 := by omega
    rw [e] at a2
    simp only [iv_fi] at a2
    have hr := @iv_rk_r (iv_ks gl) (gl 143) x2 (gl 0 10).toNat
    refine ⟨⟨(by unfold jv_r; omega), ra⟩, fun hne => ?_, fun he => ?_⟩
    · intro v ev
      rw [if_neg hne] at a2
      exact ⟨(gl 0 10 - v).toNat, by omega, rfl, by omega, by omega, by rw [ev]; exact a2, rfl⟩
    · rw [if_pos he] at a2
      rw [← a2] at hQ; exact hQ
theorem u_solverAtM {x4 a : Int} {Q : Int → jv_Mem → Prop} {g : jv_Mem} (h5 : iJ5 g) (h7 : iJ7 x4 g) (hx : x4 ≤ 2560) (ra : jv_r a) (hQ : Q (iv_fi (fun s => iv_rk (iv_ks g) (g 143) s (g 0 10).toNat) a 0 (g 0 10).toNat) (jv_up g 126 29 0)) : wp_X9_solverAt a Q g := by
  unfold wp_X9_solverAt
  rintro g1 e1
  have fr : ∀ i k, ¬ jv_scr i k → g1 i k = g i k := fun i k hik => by rw [e1]; unfold jv_scr at hik; exact jv_up_n (by omega)
  have h5 : iJ5 g1 := h5.fr (fun i k q => fr i k (by unfold f5 at q; unfold jv_scr; omega))
  have h7' : iJ7 x4 g1 := h7.fr (by omega) (fun i k q => fr i k (by unfold f7 at q; unfold jv_scr; omega))
  obtain ⟨n1, n2, n3, -⟩ := id h7'
  have hQ' : Q (iv_fi (fun s => iv_rk (iv_ks g1) (g1 143) s (g1 0 10).toNat) a 0 (g1 0 10).toNat) g1 := by
    have k1 : g1 143 = g 143 := funext fun k => fr 143 k (by unfold jv_scr; omega)
    have k2 : g1 0 10 = g 0 10 := fr 0 10 (by unfold jv_scr; omega)
    have k3 : iv_ks g1 = iv_ks g := by
      funext s
      unfold iv_ks
      have q1 : g1 (90 + 6 * s + 1 + 2) = g (90 + 6 * s + 1 + 2) := by rw [e1]; exact jv_up_row (by omega)
      have q2 : g1 (90 + 6 * s + 1) 2 = g (90 + 6 * s + 1) 2 := by rw [e1]; exact jv_up_n (by omega)
      rw [q1, q2, fr 0 11 (by unfold jv_scr; omega)]
    rw [k1, k2, k3, e1]; exact hQ
  clear hQ h7 fr e1
  have h7 := h7'
  refine ⟨fun n x2 gl => gl = g1 ∧ 0 ≤ x2 ∧ x2 ≤ g1 0 10 ∧ iv_fi (fun s => iv_rk (iv_ks g1) (g1 143) s (g1 0 10).toNat) a x2 (g1 0 10 - x2).toNat = iv_fi (fun s => iv_rk (iv_ks g1) (g1 143) s (g1 0 10).toNat) a 0 (g1 0 10).toNat ∧ n = (g1 0 10 - x2).toNat, ⟨_, rfl, by omega, by omega, by rw [Int.sub_zero], rfl⟩, ?_⟩
  rintro n x2 gl ⟨rfl, a0, a1, a2, a3⟩
  rw [n1]
  refine ⟨⟨(by unfold jv_r; omega), (by unfold jv_r; omega)⟩, fun h => ?_, fun h => ?_⟩
  · have e : (gl 0 10 - x2).toNat = 0 := by omega
    rw [e] at a2
    rw [← a2] at hQ'; exact hQ'
  · refine ⟨fun m x3 x4' gm => gm = gl ∧ 0 ≤ x4' ∧ x4' ≤ gl 0 10 ∧ x3 = iv_rk (iv_ks gl) (gl 143) x2 x4'.toNat ∧ m = (gl 0 10 - x4').toNat, ⟨_, rfl, by omega, by omega, rfl, rfl⟩, ?_⟩
    rintro m x3 x4' gm ⟨rfl, b0, b1, b2, b3⟩
    have hrk := @iv_rk_r (iv_ks gm) (gm 143) x2 x4'.toNat
    rw [← b2] at hrk
    rw [n1]
    refine ⟨⟨(by unfold jv_r; omega), (by unfold jv_r; omega)⟩, fun hh => ?_, fun hh => ?_⟩
    · have e4 : x4' = gm 0 10 := by omega
      have e : (gm 0 10 - x2).toNat = (gm 0 10 - (x2 + 1)).toNat + 1 := by omega
      rw [e] at a2
      simp only [iv_fi] at a2
      rw [e4] at b2
      refine ⟨⟨(by unfold jv_r; omega), ra⟩, fun hne => ?_, fun he => ?_⟩
      · intro v ev
        rw [if_neg (by omega)] at a2
        exact ⟨(gm 0 10 - v).toNat, by omega, rfl, by omega, by omega, by rw [ev]; exact a2, rfl⟩
      · rw [if_pos (by omega)] at a2
        rw [← a2] at hQ'; exact hQ'
    · have p1 := ex_s h7 b0 hh
      have p2 := ex_s h7 a0 h
      have q1 := iv_ks_r h5 h7 b0 hh
      have q2 := iv_ks_r h5 h7 a0 h
      have step : ∀ y : Int, y = iv_ah (iv_ks gm) (gm 143) x4' x2 → wB_X9_solverAt_91 (fun x1' x2' g' => ∃ n', n' < m ∧ g' = gm ∧ 0 ≤ x2' ∧ x2' ≤ gm 0 10 ∧ x1' = iv_rk (iv_ks gm) (gm 143) x2 x2'.toNat ∧ n' = (gm 0 10 - x2').toNat) x3 x4' y gm := by
        intro y ey v3 e3 v4 e4
        refine ⟨(gm 0 10 - v4).toNat, by omega, rfl, by omega, by omega, ?_, rfl⟩
        have e : v4.toNat = x4'.toNat + 1 := by omega
        have e6 : ((x4'.toNat : Nat) : Int) = x4' := by omega
        rw [e, e3, b2, ey]; simp only [iv_rk]; rw [e6]
      refine u_streakJ h5 h7 b0 hh (u_streakJ h5 h7 a0 h ?_)
      rintro v5 ev
      refine ⟨(by unfold jv_r; omega), fun hne => ?_, fun he => ⟨by omega, by omega, ?_⟩⟩
      · refine ⟨(by unfold jv_r; omega), fun hp => step 1 ?_, fun hp => ⟨(by unfold jv_r; omega), fun _ => step 0 ?_, fun h9 => absurd h9 hne⟩⟩
        · unfold iv_ah; rw [if_pos (by omega)]
        · unfold iv_ah; rw [if_neg (by omega)]
      · refine ⟨(by unfold jv_r; omega), fun hp => step 1 ?_, fun hp => ⟨(by unfold jv_r; omega), fun _ => step 0 ?_, fun h9 => ⟨⟨(by unfold jv_r; omega), (by unfold jv_r; omega)⟩, fun hle => step 0 ?_, fun hlt => step 1 ?_⟩⟩⟩
        · unfold iv_ah; rw [if_pos (by omega)]
        · unfold iv_ah; rw [if_neg (by omega)]
        · unfold iv_ah; rw [if_neg (by omega)]
        · unfold iv_ah; rw [if_pos (by omega)]
theorem cs_30 {L : Nat} {xs : Nat → Int32} (hL : L ≤ 2560) : ∀ (x4 : Int) (g : jv_Mem), 0 ≤ x4 → x4 + 4 < ((L : Nat) : Int) → iJ x4 g → wp_LC_30 xs L x4 (iJ (x4 + 5)) g := by
  intro x4 g h0 h4 hI
  obtain ⟨hx, j1, j2, j3, j4, j5, j6, j7, j8⟩ := id hI
  have ra := jv_sx_r xs (x4 + 1)
  unfold wp_LC_30
  generalize jv_sx xs (x4 + 1) = a at ra ⊢
  obtain ⟨n1, n2, n3, -⟩ := id j7
  have hr := @iv_fi_r (fun s => iv_rk (iv_ks g) (g 143) s (g 0 10).toNat) a (g 0 10).toNat 0 (by omega)
  exact ⟨by omega, u_solverAtX j5 j7 (by omega) ra ⟨by omega, u_solverAtM j5 j7 (by omega) ra ⟨⟨(by unfold jv_r; omega), (by unfold jv_r; omega)⟩, fun _ => hI.fr (by omega) (by (intro i k hik; (try unfold f1 at hik); (try unfold f2 at hik); (try unfold f3 at hik); (try unfold f4 at hik); (try unfold f5 at hik); (try unfold f6 at hik); (try unfold f7 at hik); (try unfold f8 at hik); (try unfold jv_scr at hik); repeat rw [jv_up_n (by omega)])), fun h9 => h9 rfl⟩⟩⟩
