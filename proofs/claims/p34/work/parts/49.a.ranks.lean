/-! streaks and solved puzzles, of the house and of the reference -/
def iv_ks (g : jv_Mem) (s : Int) : Int := iv_stk (g (90 + 6 * s + 1 + 2)) (iv_day (g (90 + 6 * s + 1) 2) (g 0 11))
theorem ex_s {x4 : Int} {g : jv_Mem} (h : iJ7 x4 g) {s : Int} (s0 : 0 ≤ s) (s1 : s < g 0 10) : s < 6 ∧ g (90 + 6 * s) 3 = g 143 s ∧ 0 ≤ g 143 s ∧ g 143 s ≤ 1000 + 72 * x4 ∧ g (90 + 6 * s + 1) 2 = g 142 s ∧ -12 ≤ g 142 s ∧ g 142 s ≤ 14 ∧ (∀ d, 0 ≤ d → d < 1252 → g (90 + 6 * s + 1 + 2) d = g 147 ((1260 * s) + d) ∧ (g (90 + 6 * s + 1 + 2) d = 0 ∨ g (90 + 6 * s + 1 + 2) d = 1)) ∧
    (∀ p c, 0 ≤ p → p < 20 → 0 ≤ c → c < 9 → g (90 + 6 * s + 1 + 1) ((p * 9) + c) = g 144 (((180 * s) + (9 * p)) + c) - 1 ∧ -1 ≤ g (90 + 6 * s + 1 + 1) ((p * 9) + c) ∧ g (90 + 6 * s + 1 + 1) ((p * 9) + c) ≤ 30001) := by
  obtain ⟨a, b, c, d, e⟩ := h
  obtain ⟨d1, d2, d3, d4, d5, d6, d7, d8⟩ := d s s0 s1
  obtain ⟨e1, e2, -⟩ := e s s0 (by omega)
  refine ⟨by omega, d1, d2, d3, d4, d5, d6, fun k k0 k1 => ⟨d8 k k0 k1, by rw [d8 k k0 k1]; exact (e2 k k0 k1).1⟩, fun p c p0 p1 c0 c1 => ⟨d7 p c p0 p1 c0 c1, ?_⟩⟩
  have := e1 p c p0 p1 c0 c1
  rw [d7 p c p0 p1 c0 c1]; omega
theorem iv_day_r {o h : Int} (h0 : 0 ≤ h) (h1 : h ≤ 30001) (o0 : -12 ≤ o) (o1 : o ≤ 14) : 0 ≤ iv_day o h ∧ iv_day o h < 1252 := by unfold iv_day; omega
theorem u_kept {x4 s : Int} {Q : Int → jv_Mem → Prop} {g : jv_Mem} (h5 : iJ5 g) (h7 : iJ7 x4 g) (s0 : 0 ≤ s) (s1 : s < g 0 10) (hQ : Q (iv_ks g s) g) : wp_X8_keptStreak s Q g := by
  obtain ⟨k1, k2, k3, k4, k5, k6, k7, k8, k9⟩ := ex_s h7 s0 s1
  unfold wp_X8_keptStreak
  refine ⟨⟨s0, k1⟩, u_daysInARow (by omega) (by omega) h5.2.1 h5.2.2 (fun k q0 q1 => ?_) hQ⟩
  have := (k8 k q0 q1).2
  unfold jv_r; omega
theorem iv_ks_r {x4 s : Int} {g : jv_Mem} (h5 : iJ5 g) (h7 : iJ7 x4 g) (s0 : 0 ≤ s) (s1 : s < g 0 10) : 0 ≤ iv_ks g s ∧ iv_ks g s ≤ 1252 := by
  obtain ⟨k1, k2, k3, k4, k5, k6, k7, k8, k9⟩ := ex_s h7 s0 s1
  have hd := @iv_day_r (g (90 + 6 * s + 1) 2) (g 0 11) h5.2.1 (by have := h5.2.2; omega) (by omega) (by omega)
  have := @iv_stk_nn (g (90 + 6 * s + 1 + 2)) _ hd.1
  unfold iv_ks; omega
theorem iv_ks_fr {g g' : jv_Mem} (h : ∀ i k, ¬ jv_scr i k → g' i k = g i k) {s : Int} (s0 : 0 ≤ s) (s1 : s < 6) : iv_ks g' s = iv_ks g s := by
  unfold iv_ks
  have e1 : g' (90 + 6 * s + 1 + 2) = g (90 + 6 * s + 1 + 2) := funext fun k => h _ k (by unfold jv_scr; omega)
  rw [e1, h (90 + 6 * s + 1) 2 (by unfold jv_scr; omega), h 0 11 (by unfold jv_scr; omega)]
theorem ex_p {g : jv_Mem} (h : iJ6 g) {p : Int} (p0 : 0 ≤ p) (p1 : p < g 0 9) : p < 20 ∧ g (30 + 3 * p) 2 = g 137 p ∧ 0 ≤ g 137 p ∧ g 137 p ≤ g 0 11 ∧ g (30 + 3 * p) 4 = iv_op (g 140 p) ∧ 0 ≤ g 140 p ∧ g 140 p < 64 ∧ 0 ≤ iv_op (g 140 p) ∧ iv_op (g 140 p) < 512 := by
  obtain ⟨a, b, c, d, e⟩ := h
  obtain ⟨d1, d2, d3, -⟩ := d p p0 p1
  obtain ⟨e1, e2, e3, e4, -⟩ := e p p0 (by omega)
  have := ib_op e2 e3
  exact ⟨by omega, d1, d2, d3, e4, e2, e3, this.1, this.2⟩
/-- ranks -/
def iv_ah (K P : Int → Int) (o s : Int) : Int := if K s < K o ∨ (K s = K o ∧ (P s < P o ∨ (P s = P o ∧ o < s))) then 1 else 0
def iv_rk (K P : Int → Int) (s : Int) : Nat → Int
  | 0 => 0
  | n + 1 => iv_rk K P s n + iv_ah K P (n : Nat) s
theorem iv_rk_r {K P : Int → Int} {s : Int} : ∀ {n : Nat}, 0 ≤ iv_rk K P s n ∧ iv_rk K P s n ≤ n := by
  intro n
  induction n with
  | zero => exact ⟨by simp [iv_rk], by simp [iv_rk]⟩
  | succ n ih => simp only [iv_rk, iv_ah]; split <;> omega
theorem iv_ah_self {K P : Int → Int} {s : Int} : iv_ah K P s s = 0 := by unfold iv_ah; rw [if_neg (by omega)]
def iv_fi (R : Int → Int) (a : Int) : Int → Nat → Int
  | _, 0 => -1
  | s, m + 1 => if R s = a then s else iv_fi R a (s + 1) m
theorem iv_fi_r {R : Int → Int} {a : Int} : ∀ {m : Nat} {s : Int}, 0 ≤ s → -1 ≤ iv_fi R a s m ∧ iv_fi R a s m < s + m := by
  intro m
  induction m with
  | zero => intro s h; simp only [iv_fi]; omega
  | succ m ih =>
    intro s h
    have := @ih (s + 1) (by omega)
    simp only [iv_fi]; split <;> omega
theorem u_rank {x4 s : Int} {Q : Int → jv_Mem → Prop} {g : jv_Mem} (h5 : iJ5 g) (h7 : iJ7 x4 g) (hx : x4 ≤ 2560) (s0 : 0 ≤ s) (s1 : s < g 0 10) (hQ : Q (iv_rk (iv_ks g) (g 143) s (g 0 10).toNat) g) : wp_X8_rank s Q g := by
  obtain ⟨n1, n2, n3, -⟩ := id h7
  unfold wp_X8_rank
  refine ⟨fun n x2 x3 gl => gl = g ∧ 0 ≤ x3 ∧ x3 ≤ g 0 10 ∧ x2 = iv_rk (iv_ks g) (g 143) s x3.toNat ∧ n = (g 0 10 - x3).toNat, ⟨_, rfl, by omega, by omega, rfl, rfl⟩, ?_⟩
  rintro n x2 x3 gl ⟨rfl, a0, a1, a2, a3⟩
  have step : ∀ y : Int, x3 < gl 0 10 → y = x2 + iv_ah (iv_ks gl) (gl 143) x3 s → wB_X8_rank_29 (fun x1' x2' g' => ∃ n', n' < n ∧ g' = gl ∧ 0 ≤ x2' ∧ x2' ≤ gl 0 10 ∧ x1' = iv_rk (iv_ks gl) (gl 143) s x2'.toNat ∧ n' = (gl 0 10 - x2').toNat) x3 y gl := by
    intro y hlt ey v3 e3
    refine ⟨(gl 0 10 - v3).toNat, by omega, rfl, by omega, by omega, ?_, rfl⟩
    have e : v3.toNat = x3.toNat + 1 := by omega
    have e6 : ((x3.toNat : Nat) : Int) = x3 := by omega
    rw [e, ey, a2]; simp only [iv_rk]; rw [e6]
  refine ⟨⟨(by unfold jv_r; omega), (by unfold jv_r; omega)⟩, fun h => ?_, fun h => ⟨⟨(by unfold jv_r; omega), (by unfold jv_r; omega)⟩, fun he => ?_, fun hne => ?_⟩⟩
  · have e : x3 = gl 0 10 := by omega
    rw [a2, e]; exact hQ
  · exact step x2 h (by rw [he, iv_ah_self]; omega)
  · have p1 := ex_s h7 a0 h
    have p2 := ex_s h7 s0 s1
    have q1 := iv_ks_r h5 h7 a0 h
    have q2 := iv_ks_r h5 h7 s0 s1
    have yes : iv_ah (iv_ks gl) (gl 143) x3 s = 1 → ((jv_r 1) ∧ ((1 : Int) = 0 → wB_X8_rank_29 (fun x1' x2' g' => ∃ n', n' < n ∧ g' = gl ∧ 0 ≤ x2' ∧ x2' ≤ gl 0 10 ∧ x1' = iv_rk (iv_ks gl) (gl 143) s x2'.toNat ∧ n' = (gl 0 10 - x2').toNat) x3 x2 gl) ∧ (¬ (1 : Int) = 0 → (∀ v2_26 : Int, v2_26 = x2 + 1 → wB_X8_rank_29 (fun x1' x2' g' => ∃ n', n' < n ∧ g' = gl ∧ 0 ≤ x2' ∧ x2' ≤ gl 0 10 ∧ x1' = iv_rk (iv_ks gl) (gl 143) s x2'.toNat ∧ n' = (gl 0 10 - x2').toNat) x3 v2_26 gl))) := fun h1 => ⟨(by unfold jv_r; omega), fun h9 => absurd h9 (by omega), fun _ v ev => step v h (by rw [h1]; exact ev)⟩
    have no : iv_ah (iv_ks gl) (gl 143) x3 s = 0 → ((jv_r 0) ∧ ((0 : Int) = 0 → wB_X8_rank_29 (fun x1' x2' g' => ∃ n', n' < n ∧ g' = gl ∧ 0 ≤ x2' ∧ x2' ≤ gl 0 10 ∧ x1' = iv_rk (iv_ks gl) (gl 143) s x2'.toNat ∧ n' = (gl 0 10 - x2').toNat) x3 x2 gl) ∧ (¬ (0 : Int) = 0 → (∀ v2_26 : Int, v2_26 = x2 + 1 → wB_X8_rank_29 (fun x1' x2' g' => ∃ n', n' < n ∧ g' = gl ∧ 0 ≤ x2' ∧ x2' ≤ gl 0 10 ∧ x1' = iv_rk (iv_ks gl) (gl 143) s x2'.toNat ∧ n' = (gl 0 10 - x2').toNat) x3 v2_26 gl))) := fun h1 => ⟨(by unfold jv_r; omega), fun _ => step x2 h (by rw [h1]; omega), fun h9 => absurd rfl h9⟩
    unfold wp_X8_isAhead
    refine u_kept h5 h7 a0 h (u_kept h5 h7 s0 s1 ⟨⟨(by unfold jv_r; omega), (by unfold jv_r; omega)⟩, fun he => ⟨by omega, ?_⟩, fun hk => ⟨⟨(by unfold jv_r; omega), (by unfold jv_r; omega)⟩, fun hle => ?_, fun hgt => ?_⟩⟩)
    · unfold wp_X4_purse
      dsimp only
      rw [p1.2.1, p2.2.1]
      refine ⟨by omega, ⟨⟨(by unfold jv_r; omega), (by unfold jv_r; omega)⟩, fun hp => ⟨⟨(by unfold jv_r; omega), (by unfold jv_r; omega)⟩, fun hle => ?_, fun hgt => ?_⟩, fun hp => ⟨⟨(by unfold jv_r; omega), (by unfold jv_r; omega)⟩, fun hle => ?_, fun hgt => ?_⟩⟩⟩
      · exact no (by unfold iv_ah; rw [if_neg (by omega)])
      · exact yes (by unfold iv_ah; rw [if_pos (by omega)])
      · exact no (by unfold iv_ah; rw [if_neg (by omega)])
      · exact yes (by unfold iv_ah; rw [if_pos (by omega)])
    · exact no (by unfold iv_ah; rw [if_neg (by omega)])
    · exact yes (by unfold iv_ah; rw [if_pos (by omega)])
theorem u_solverAtX {x4 a : Int} {Q : Int → jv_Mem → Prop} {g : jv_Mem} (h5 : iJ5 g) (h7 : iJ7 x4 g) (hx : x4 ≤ 2560) (ra : jv_r a) (hQ : Q (iv_fi (fun s => iv_rk (iv_ks g) (g 143) s (g 0 10).toNat) a 0 (g 0 10).toNat) g) : wp_X8_solverAt a Q g := by
  obtain ⟨n1, n2, n3, -⟩ := id h7
  unfold wp_X8_solverAt
  refine ⟨fun n x2 gl => gl = g ∧ 0 ≤ x2 ∧ x2 ≤ g 0 10 ∧ iv_fi (fun s => iv_rk (iv_ks g) (g 143) s (g 0 10).toNat) a x2 (g 0 10 - x2).toNat = iv_fi (fun s => iv_rk (iv_ks g) (g 143) s (g 0 10).toNat) a 0 (g 0 10).toNat ∧ n = (g 0 10 - x2).toNat, ⟨_, rfl, by omega, by omega, by rw [Int.sub_zero], rfl⟩, ?_⟩
  rintro n x2 gl ⟨rfl, a0, a1, a2, a3⟩
  refine ⟨⟨(by unfold jv_r; omega), (by unfold jv_r; omega)⟩, fun h => ?_, fun h => u_rank h5 h7 hx a0 h ?_⟩
  · have e : (gl 0 10 - x2).toNat = 0 := by omega
    rw [e] at a2
    rw [← a2] at hQ; exact hQ
  · have e : (gl 0 10 - x2).toNat = (gl 0 10 - (x2 + 1)).toNat + 1 := by omega
    rw [e] at a2
    simp only [iv_fi] at a2
    have hr := @iv_rk_r (iv_ks gl) (gl 143) x2 (gl 0 10).toNat
    refine ⟨⟨(by unfold jv_r; omega), ra⟩, fun hne => ?_, fun he => ?_⟩
    · intro v ev
      rw [if_neg hne] at a2
      exact ⟨(gl 0 10 - v).toNat, by omega, rfl, by omega, by omega, by rw [ev]; exact a2, rfl⟩
    · rw [if_pos he] at a2
      rw [← a2] at hQ; exact hQ
