/-! the order of solvers -/
theorem iv_ah_i {K P : Int → Int} {o s : Int} : (iv_ah K P o s = 1 ↔ (K s < K o ∨ (K s = K o ∧ (P s < P o ∨ (P s = P o ∧ o < s))))) ∧ (iv_ah K P o s = 0 ∨ iv_ah K P o s = 1) := by
  unfold iv_ah
  by_cases h : K s < K o ∨ (K s = K o ∧ (P s < P o ∨ (P s = P o ∧ o < s)))
  · rw [if_pos h]; exact ⟨⟨fun _ => h, fun _ => rfl⟩, Or.inr rfl⟩
  · rw [if_neg h]; exact ⟨⟨fun e => absurd e (by decide), fun e => absurd e h⟩, Or.inl rfl⟩
theorem iv_ah_t {K P : Int → Int} {q o s : Int} (h : iv_ah K P q o = 1) (h' : iv_ah K P o s = 1) : iv_ah K P q s = 1 := by
  rw [iv_ah_i.1] at h h' ⊢
  omega
theorem iv_rk_le {K P : Int → Int} {o s : Int} (h : iv_ah K P o s = 1) : ∀ {n : Nat}, iv_rk K P o n ≤ iv_rk K P s n := by
  intro n
  induction n with
  | zero => exact Int.le_refl _
  | succ n ih =>
    simp only [iv_rk]
    have h1 := (@iv_ah_i K P (n : Nat) o).2
    have h2 := (@iv_ah_i K P (n : Nat) s).2
    by_cases e : iv_ah K P (n : Nat) o = 1
    · have := iv_ah_t e h; omega
    · omega
theorem iv_rk_lt {K P : Int → Int} {o s : Int} (h : iv_ah K P o s = 1) (o0 : 0 ≤ o) : ∀ {n : Nat}, o < n → iv_rk K P o n < iv_rk K P s n := by
  intro n
  induction n with
  | zero => intro h9; omega
  | succ n ih =>
    intro h9
    simp only [iv_rk]
    have h1 := (@iv_ah_i K P (n : Nat) o).2
    have h2 := (@iv_ah_i K P (n : Nat) s).2
    by_cases eo : o = (n : Nat)
    · have h3 := @iv_rk_le K P o s h n
      have h4 : iv_ah K P (n : Nat) o = 0 := by rw [← eo]; exact iv_ah_self
      have h5 : iv_ah K P (n : Nat) s = 1 := by rw [← eo]; exact h
      omega
    · have h3 := ih (by omega)
      by_cases e : iv_ah K P (n : Nat) o = 1
      · have := iv_ah_t e h; omega
      · omega
theorem iv_rk_n {K P : Int → Int} {s : Int} (s0 : 0 ≤ s) : ∀ {n : Nat}, s < n → iv_rk K P s n < n := by
  intro n
  induction n with
  | zero => intro h9; omega
  | succ n ih =>
    intro h9
    simp only [iv_rk]
    have h1 := (@iv_ah_i K P (n : Nat) s).2
    have h2 := @iv_rk_r K P s n
    by_cases e : s = (n : Nat)
    · have h4 : iv_ah K P (n : Nat) s = 0 := by rw [← e]; exact iv_ah_self
      omega
    · have := ih (by omega); omega
theorem iv_rk_i {K P : Int → Int} {o s : Int} {n : Nat} (o0 : 0 ≤ o) (o1 : o < n) (s0 : 0 ≤ s) (s1 : s < n) (h : o ≠ s) : iv_rk K P o n ≠ iv_rk K P s n := by
  by_cases e : iv_ah K P o s = 1
  · have := iv_rk_lt e o0 o1; omega
  · have e' : iv_ah K P s o = 1 := by rw [iv_ah_i.1] at e ⊢; omega
    have := iv_rk_lt e' s0 s1; omega
/-- as many places as solvers: each is taken -/
theorem iv_pig : ∀ (n : Nat) (R : Int → Int), (∀ s : Int, 0 ≤ s → s < n → 0 ≤ R s ∧ R s < n) → (∀ s o : Int, 0 ≤ s → s < n → 0 ≤ o → o < n → s ≠ o → R s ≠ R o) → ∀ a : Int, 0 ≤ a → a < n → ∃ s : Int, 0 ≤ s ∧ s < n ∧ R s = a := by
  intro n
  induction n with
  | zero => intro R _ _ a a0 a1; omega
  | succ n ih =>
    intro R hr hi a a0 a1
    by_cases e : a = R (n : Nat)
    · exact ⟨n, by omega, by omega, e.symm⟩
    · have hn := hr n (by omega) (by omega)
      obtain ⟨s, s0, s1, es⟩ := ih (fun s => if R (n : Nat) < R s then R s - 1 else R s) (fun s s0 s1 => by
        have h1 := hr s s0 (by omega)
        have h2 := hi s n s0 (by omega) (by omega) (by omega) (by omega)
        split <;> omega) (fun s o s0 s1 o0 o1 hne => by
        have h1 := hi s o s0 (by omega) o0 (by omega) hne
        have h2 := hi s n s0 (by omega) (by omega) (by omega) (by omega)
        have h3 := hi o n o0 (by omega) (by omega) (by omega) (by omega)
        split <;> split <;> omega) (if R (n : Nat) < a then a - 1 else a) (by split <;> omega) (by split <;> omega)
      have h2 := hi s n s0 (by omega) (by omega) (by omega) (by omega)
      refine ⟨s, s0, by omega, ?_⟩
      by_cases q : R (n : Nat) < R s
      · rw [if_pos q] at es
        by_cases q' : R (n : Nat) < a
        · rw [if_pos q'] at es; omega
        · rw [if_neg q'] at es; omega
      · rw [if_neg q] at es
        by_cases q' : R (n : Nat) < a
        · rw [if_pos q'] at es; omega
        · rw [if_neg q'] at es; omega
theorem iv_fi_no {R : Int → Int} {a : Int} : ∀ {m : Nat} {s : Int}, (∀ x, s ≤ x → x < s + m → R x ≠ a) → iv_fi R a s m = -1 := by
  intro m
  induction m with
  | zero => intro s _; rfl
  | succ m ih =>
    intro s h
    simp only [iv_fi]
    rw [if_neg (h s (by omega) (by omega))]
    exact ih (fun x x0 x1 => h x (by omega) (by omega))
theorem iv_fi_yes {R : Int → Int} {a : Int} : ∀ {m : Nat} {s : Int}, (∃ x, s ≤ x ∧ x < s + m ∧ R x = a) → s ≤ iv_fi R a s m ∧ iv_fi R a s m < s + m ∧ R (iv_fi R a s m) = a := by
  intro m
  induction m with
  | zero => intro s ⟨x, h0, h1, _⟩; omega
  | succ m ih =>
    intro s ⟨x, h0, h1, h2⟩
    simp only [iv_fi]
    by_cases e : R s = a
    · rw [if_pos e]; exact ⟨by omega, by omega, e⟩
    · rw [if_neg e]
      have hx : x ≠ s := fun h => e (by rw [← h]; exact h2)
      have := @ih (s + 1) ⟨x, by omega, by omega, h2⟩
      exact ⟨by omega, by omega, this.2.2⟩
def iv_ra (g : jv_Mem) (s : Int) : Int := iv_rk (iv_ks g) (g 143) s (g 0 10).toNat
theorem t_solverAt {x4 a : Int} {Q : Int → jv_Mem → Prop} {g : jv_Mem} (hI : iJ x4 g) (hx : x4 ≤ 2560) (ra : jv_r a) (h1 : 0 ≤ a → a < g 0 10 → ∀ r : Int, 0 ≤ r → r < g 0 10 → iv_ra g r = a → Q r g) (h2 : a = -1 ∨ a = g 0 10 → Q (-1) g) (h3 : -1 ≤ a ∧ a ≤ g 0 10) : wp_X8_solverAt a Q g := by
  obtain ⟨_, j1, j2, j3, j4, j5, j6, j7, j8⟩ := hI
  have n2 := j7.2.1
  refine u_solverAtX j5 j7 hx ra ?_
  by_cases h : 0 ≤ a ∧ a < g 0 10
  · have := @iv_fi_yes (fun s => iv_rk (iv_ks g) (g 143) s (g 0 10).toNat) a (g 0 10).toNat 0 (by
      obtain ⟨s, s0, s1, e⟩ := iv_pig (g 0 10).toNat (fun s => iv_rk (iv_ks g) (g 143) s (g 0 10).toNat) (fun s s0 s1 => ⟨iv_rk_r.1, iv_rk_n s0 s1⟩) (fun s o s0 s1 o0 o1 hne => iv_rk_i s0 s1 o0 o1 hne) a h.1 (by omega)
      exact ⟨s, s0, by omega, e⟩)
    exact h1 h.1 h.2 _ this.1 (by omega) this.2.2
  · rw [iv_fi_no]
    · exact h2 (by omega)
    · intro x x0 x1
      have := @iv_rk_n (iv_ks g) (g 143) x x0 (g 0 10).toNat (by omega)
      have := (@iv_rk_r (iv_ks g) (g 143) x (g 0 10).toNat).1
      show iv_rk (iv_ks g) (g 143) x (g 0 10).toNat ≠ a
      omega
theorem t_streak {x4 s : Int} {Q : Int → jv_Mem → Prop} {g : jv_Mem} (hI : iJ x4 g) (hs : 0 ≤ s ∧ s < g 0 10) (hQ : 0 ≤ iv_ks g s → iv_ks g s ≤ 1252 → Q (iv_ks g s) g) : wp_X8_streak s Q g := by
  obtain ⟨_, j1, j2, j3, j4, j5, j6, j7, j8⟩ := hI
  have n2 := j7.2.2.1
  have hr := iv_ks_r j5 j7 hs.1 hs.2
  unfold wp_X8_streak
  exact u_needIndex (by unfold jv_r; omega) hs (u_kept j5 j7 hs.1 hs.2 (hQ hr.1 hr.2))
theorem t_coins {x4 s : Int} {Q : Int → jv_Mem → Prop} {g : jv_Mem} (hI : iJ x4 g) (hs : 0 ≤ s ∧ s < g 0 10) (hQ : 0 ≤ g 143 s → g 143 s ≤ 1000 + 72 * x4 → Q (g 143 s) g) : wp_X8_coins s Q g := by
  obtain ⟨_, j1, j2, j3, j4, j5, j6, j7, j8⟩ := hI
  have n2 := j7.2.2.1
  have k := ex_s j7 hs.1 hs.2
  unfold wp_X8_coins wp_X4_purse
  refine u_needIndex (by unfold jv_r; omega) hs ⟨by omega, ?_⟩
  rw [k.2.1]
  exact hQ k.2.2.1 k.2.2.2.1
theorem t_solvers {x4 n : Int} {Q : Int → jv_Mem → Prop} {g : jv_Mem} (hI : iJ x4 g) (hx : x4 ≤ 2560) (hn : n = g 0 10) (hQ : Q 1 g) : wp_L_solvers n Q g := by
  subst hn
  have n2 := hI.2.2.2.2.2.2.2.1.2.1
  have n3 := hI.2.2.2.2.2.2.2.1.2.2.1
  have x0 := hI.1
  unfold wp_L_solvers
  refine t_solverAt hI hx (by unfold jv_r; omega) (fun _ h => absurd h (by omega)) (fun _ => ⟨(by unfold jv_r; omega), fun h => absurd rfl h, fun _ => ?_⟩) ⟨by omega, by omega⟩
  refine t_solverAt hI hx (by unfold jv_r; omega) (fun h => absurd h (by omega)) (fun _ => ⟨(by unfold jv_r; omega), fun h => absurd rfl h, fun _ => ?_⟩) ⟨by omega, by omega⟩
  unfold wB_L_solvers_23
  refine ⟨fun m x2 x3 gl => x2 = 1 ∧ 0 ≤ x3 ∧ x3 ≤ g 0 10 ∧ gl = g ∧ m = (g 0 10 - x3).toNat, ⟨_, rfl, by omega, n2, rfl, rfl⟩, ?_⟩
  rintro m x2 x gl ⟨rfl, a0, a1, rfl, hm⟩
  refine ⟨⟨(by unfold jv_r; omega), (by unfold jv_r; omega)⟩, fun _ => ⟨Or.inr rfl, hQ⟩, fun hl => ⟨(by unfold jv_r; omega), fun h => absurd h (by omega), fun _ => ?_⟩⟩
  have fin : ∀ v3 : Int, v3 = x + 1 → ∃ n', n' < m ∧ (1 : Int) = 1 ∧ 0 ≤ v3 ∧ v3 ≤ gl 0 10 ∧ gl = gl ∧ n' = (gl 0 10 - v3).toNat := fun v3 e => ⟨(gl 0 10 - v3).toNat, by omega, rfl, by omega, by omega, rfl, rfl⟩
  refine t_solverAt hI hx (by unfold jv_r; omega) (fun _ _ r r0 r1 er => ?_) (fun h => absurd h (by omega)) ⟨by omega, by omega⟩
  have good : ∀ y : Int, 0 ≤ y → y < gl 0 10 → (y = r ∨ iv_ra gl y = x + 1) → wB_L_solvers_61 (gl 0 10) (fun x1' x2' g' => ∃ n', n' < m ∧ x1' = 1 ∧ 0 ≤ x2' ∧ x2' ≤ gl 0 10 ∧ g' = gl ∧ n' = (gl 0 10 - x2').toNat) r x y gl := by
    intro y y0 y1 hy
    have ord : iv_ks gl y < iv_ks gl r ∨ (iv_ks gl y = iv_ks gl r ∧ gl 143 y ≤ gl 143 r) := by
      rcases hy with e | e
      · rw [e]; omega
      · have hna : ¬ iv_ah (iv_ks gl) (gl 143) y r = 1 := fun h => by
          have := @iv_rk_lt _ _ _ _ h y0 (gl 0 10).toNat (by omega)
          unfold iv_ra at e er
          omega
        rw [iv_ah_i.1] at hna
        omega
    unfold wB_L_solvers_61
    refine ⟨(by unfold jv_r; omega), fun h => absurd h (by omega), fun _ => ⟨⟨(by unfold jv_r; omega), (by unfold jv_r; omega)⟩, fun h => absurd h (by omega), fun _ => ?_⟩⟩
    refine t_streak hI ⟨r0, r1⟩ (fun p0 p1 => t_streak hI ⟨y0, y1⟩ (fun q0 q1 => ⟨⟨(by unfold jv_r; omega), (by unfold jv_r; omega)⟩, fun h => absurd h (by omega), fun _ => ?_⟩))
    refine t_streak hI ⟨r0, r1⟩ (fun _ _ => t_streak hI ⟨y0, y1⟩ (fun _ _ => ⟨⟨(by unfold jv_r; omega), (by unfold jv_r; omega)⟩, fun _ => fin, fun hle => ?_⟩))
    refine t_coins hI ⟨r0, r1⟩ (fun c0 c1 => t_coins hI ⟨y0, y1⟩ (fun d0 d1 => ⟨⟨(by unfold jv_r; omega), (by unfold jv_r; omega)⟩, fun h => absurd h (by omega), fun _ => fin⟩))
  refine ⟨⟨(by unfold jv_r; omega), (by unfold jv_r; omega)⟩, fun h => good r r0 r1 (Or.inl rfl), fun h => ?_⟩
  exact t_solverAt hI hx (by unfold jv_r; omega) (fun _ _ y y0 y1 ey => good y y0 y1 (Or.inr ey)) (fun h9 => absurd h9 (by omega)) ⟨by omega, by omega⟩
