theorem iv_sm_01 {R : Int → Int} {p : Int} : ∀ n : Nat, iv_sm R p n = 0 ∨ iv_sm R p n = 1 := by
  intro n
  induction n with
  | zero => exact Or.inl rfl
  | succ n ih => simp only [iv_sm]; split <;> simp [ih]
theorem iv_al_0 {R : Int → Int} {p m : Int} {n : Nat} (h : iv_al R p m n ≠ 1) : ∀ k : Nat, n ≤ k → iv_al R p m k ≠ 1 := by
  intro k
  induction k with
  | zero => intro hk; have e : n = 0 := by omega
            rw [e] at h; exact h
  | succ k ih =>
    intro hk
    by_cases e : n = k + 1
    · rw [← e]; exact h
    · have := ih (by omega)
      simp only [iv_al]
      split
      · decide
      · exact this
theorem iv_la_r {R : Int → Int} {p m : Int} (hr : ∀ c, 0 ≤ c → c < 9 → -1 ≤ R (p * 9 + c) ∧ R (p * 9 + c) ≤ 30001) : ∀ n : Nat, n ≤ 9 → -1 ≤ iv_la R p m n ∧ iv_la R p m n ≤ 30001 := by
  intro n
  induction n with
  | zero => intro _; simp [iv_la]
  | succ n ih =>
    intro hn
    have h1 := ih (by omega)
    have h2 := hr (n : Nat) (by omega) (by omega)
    simp only [iv_la]
    split
    · split <;> omega
    · exact h1
theorem iv_la_all {R : Int → Int} {p m : Int} : ∀ n : Nat, (∀ c : Int, 0 ≤ c → c < n → ¬ iv_bit m c = 0) → iv_la R p m n = -1 := by
  intro n
  induction n with
  | zero => intro _; rfl
  | succ n ih =>
    intro h
    simp only [iv_la]
    rw [if_neg (h n (by omega) (by omega))]
    exact ih (fun c a b => h c a (by omega))
theorem iv_sl_r {R : Int → Int} {p m a : Int} (hr : ∀ c, 0 ≤ c → c < 9 → -1 ≤ R (p * 9 + c) ∧ R (p * 9 + c) ≤ 30001) (ha : 0 ≤ a ∧ a ≤ 30001) : -1 ≤ iv_sl R p m a ∧ iv_sl R p m a ≤ 30001 := by
  unfold iv_sl
  have := iv_la_r (m := m) hr 9 (by omega)
  split
  · split <;> omega
  · omega
theorem u_isRight {t p c : Int} {Q : Int → jv_Mem → Prop} {g : jv_Mem} (p0 : 0 ≤ p) (p1 : p < 20) (c0 : 0 ≤ c) (c1 : c < 9) (hr : jv_r (g (t + 1) ((p * 9) + c))) (h1 : ¬ g (t + 1) ((p * 9) + c) = -1 → Q 1 g) (h2 : g (t + 1) ((p * 9) + c) = -1 → Q 0 g) : wp_X2_isRight t p c Q g :=
  ⟨by omega, hr, h2, h1⟩
theorem u_solvedHour {t p m a : Int} {Q : Int → jv_Mem → Prop} {g : jv_Mem} (p0 : 0 ≤ p) (p1 : p < 20) (m0 : 0 ≤ m) (m1 : m < 512) (hr : ∀ c, 0 ≤ c → c < 9 → -1 ≤ g (t + 1) (p * 9 + c) ∧ g (t + 1) (p * 9 + c) ≤ 30001) (hQ : Q (iv_sl (g (t + 1)) p m a) g) : wp_X2_solvedHour t p m a Q g := by
  unfold wp_X2_solvedHour
  refine ⟨fun n x4 x5 x6 gl => gl = g ∧ 0 ≤ x6 ∧ x6 ≤ 9 ∧ x4 = iv_sm (g (t + 1)) p x6.toNat ∧ x5 = iv_la (g (t + 1)) p m x6.toNat ∧ iv_al (g (t + 1)) p m x6.toNat = 1 ∧ n = (9 - x6).toNat, ⟨9, rfl, by omega, by omega, rfl, rfl, rfl, rfl⟩, ?_⟩
  rintro n x4 x5 x6 gl ⟨rfl, a0, a1, a2, a3, a4, a5⟩
  have s01 := @iv_sm_01 (gl (t + 1)) p x6.toNat
  have lar := iv_la_r (m := m) hr x6.toNat (by omega)
  rw [← a2] at s01
  rw [← a3] at lar
  refine ⟨(by unfold jv_r; omega), fun h => ⟨(by unfold jv_r; omega), fun h4 => ⟨(by unfold jv_r; omega), fun h5 => ?_, fun h5 => ?_⟩, fun h4 => ?_⟩, fun h => ?_⟩
  · have e : x6.toNat = 9 := by omega
    rw [e] at a2 a3 a4
    have e2 : iv_sl (gl (t + 1)) p m a = x5 := by unfold iv_sl; rw [if_pos ⟨a4, by omega⟩, if_neg h5, a3]
    rw [← e2]; exact hQ
  · have e : x6.toNat = 9 := by omega
    rw [e] at a2 a3 a4
    have e2 : iv_sl (gl (t + 1)) p m a = a := by unfold iv_sl; rw [if_pos ⟨a4, by omega⟩, if_pos h5]
    rw [← e2]; exact hQ
  · have e : x6.toNat = 9 := by omega
    rw [e] at a2 a3 a4
    have e2 : iv_sl (gl (t + 1)) p m a = -1 := by unfold iv_sl; rw [if_neg (by omega)]
    rw [e2] at hQ; exact hQ
  · have e6 : ((x6.toNat : Nat) : Int) = x6 := by omega
    have rr := hr x6 a0 h
    have bb := ib_m m0 m1 a0 h
    have step : ∀ y v4 v5 v6 : Int, v6 = x6 + 1 → v4 = (if gl (t + 1) (p * 9 + x6) = -1 then x4 else 1) → v5 = (if iv_bit m x6 = 0 then (if x5 < gl (t + 1) (p * 9 + x6) then gl (t + 1) (p * 9 + x6) else x5) else x5) → ¬ (gl (t + 1) (p * 9 + x6) = -1 ∧ iv_bit m x6 = 0) → ∃ n', n' < n ∧ gl = gl ∧ 0 ≤ v6 ∧ v6 ≤ 9 ∧ v4 = iv_sm (gl (t + 1)) p v6.toNat ∧ v5 = iv_la (gl (t + 1)) p m v6.toNat ∧ iv_al (gl (t + 1)) p m v6.toNat = 1 ∧ n' = (9 - v6).toNat := by
      intro y v4 v5 v6 e1 e2 e3 e4
      have e5 : v6.toNat = x6.toNat + 1 := by omega
      refine ⟨(9 - v6).toNat, by omega, rfl, by omega, by omega, ?_, ?_, ?_, rfl⟩
      · rw [e5, e2, a2]; simp only [iv_sm]; rw [e6]
      · rw [e5, e3, a3]; simp only [iv_la]; rw [e6]
      · rw [e5]; simp only [iv_al]; rw [e6, if_neg e4]; exact a4
    have body : ∀ y0 : Int, y0 = iv_bit m x6 → wB_X2_solvedHour_30 t p Q (fun x1' x2' x3' g' => ∃ n', n' < n ∧ g' = gl ∧ 0 ≤ x3' ∧ x3' ≤ 9 ∧ x1' = iv_sm (gl (t + 1)) p x3'.toNat ∧ x2' = iv_la (gl (t + 1)) p m x3'.toNat ∧ iv_al (gl (t + 1)) p m x3'.toNat = 1 ∧ n' = (9 - x3').toNat) x4 x5 x6 y0 gl := by
      intro y0 ey
      unfold wB_X2_solvedHour_30
      have tail : ∀ v4 : Int, ¬ (gl (t + 1) (p * 9 + x6) = -1 ∧ iv_bit m x6 = 0) → v4 = (if gl (t + 1) (p * 9 + x6) = -1 then x4 else 1) → wB_X2_solvedHour_61 t p (fun x1' x2' x3' g' => ∃ n', n' < n ∧ g' = gl ∧ 0 ≤ x3' ∧ x3' ≤ 9 ∧ x1' = iv_sm (gl (t + 1)) p x3'.toNat ∧ x2' = iv_la (gl (t + 1)) p m x3'.toNat ∧ iv_al (gl (t + 1)) p m x3'.toNat = 1 ∧ n' = (9 - x3').toNat) x5 x6 y0 v4 gl := by
        intro v4 h1 h2
        unfold wB_X2_solvedHour_61
        refine ⟨(by unfold jv_r; omega), fun hy => ?_, fun hy => ⟨by omega, ⟨(by unfold jv_r; omega), (by unfold jv_r; omega)⟩, ?_⟩⟩
        · intro v6 e
          exact step 0 v4 x5 v6 e h2 (by rw [if_neg (by omega)]) h1
        · intro v5 e5 v6 e
          exact step 0 v4 v5 v6 e h2 (by rw [if_pos (by omega)]; exact e5) h1
      refine u_isRight p0 p1 a0 h (by unfold jv_r; omega) (fun hh => ?_) (fun hh => ?_)
      · refine ⟨r01.2.1, fun _ => ⟨r01.2.1, fun h9 => absurd h9 (by omega), fun _ => ?_⟩, fun h9 => absurd h9 (by omega)⟩
        exact tail 1 (by omega) (by rw [if_neg hh])
      · refine ⟨r01.1, fun h9 => absurd rfl h9, fun _ => ⟨(by unfold jv_r; omega), fun hy => ⟨r01.1, fun _ => ?_, fun h9 => absurd rfl h9⟩, fun hy => ?_⟩⟩
        · exact tail x4 (by omega) (by rw [if_pos hh])
        · have e2 : iv_sl (gl (t + 1)) p m a = -1 := by
            unfold iv_sl
            rw [if_neg (fun hc => iv_al_0 (n := x6.toNat + 1) (by simp only [iv_al]; rw [e6, if_pos ⟨hh, by omega⟩]; decide) 9 (by omega) hc.1)]
          rw [e2] at hQ; exact hQ
    exact ⟨ir_and, fun hb => body 0 (by rw [bit_eq] at hb; omega), fun hb => body 1 (by rw [bit_eq] at hb; omega)⟩
theorem u_solved {s p : Int} {R : Int → Int} {Q : Int → jv_Mem → Prop} {g : jv_Mem} (s0 : 0 ≤ s) (s1 : s < 6) (p0 : 0 ≤ p) (p1 : p < 20) (j0 : 0 ≤ g 140 p) (j1 : g 140 p < 64) (hR : ∀ c, 0 ≤ c → c < 9 → R (p * 9 + c) = g 144 (((180 * s) + (9 * p)) + c) - 1) (hr : ∀ c, 0 ≤ c → c < 9 → -1 ≤ R (p * 9 + c) ∧ R (p * 9 + c) ≤ 30001) (ha : jv_r (g 137 p)) (hQ : Q (iv_sl R p (iv_op (g 140 p)) (g 137 p)) g) : wp_X9_solved s p Q g := by
  unfold wp_X9_solved
  refine u_openOf p0 p1 ⟨⟨p0, p1⟩, ?_⟩
  have m01 := ib_op j0 j1
  generalize hm : iv_op (g 140 p) = m at *
  rintro v4 rfl
  refine ⟨fun n x4 x5 x6 x7 gl => gl = g ∧ 0 ≤ x7 ∧ x7 ≤ 9 ∧ x6 = iv_sm R p x7.toNat ∧ iv_al R p m x7.toNat = 1 ∧ ((x5 = 1 ∧ x4 = g 137 p ∧ ∀ c, 0 ≤ c → c < x7 → ¬ iv_bit m c = 0) ∨ (x5 = 0 ∧ x4 = iv_la R p m x7.toNat ∧ ∃ c, 0 ≤ c ∧ c < x7 ∧ iv_bit m c = 0)) ∧ n = (9 - x7).toNat, ⟨9, rfl, by omega, by omega, rfl, rfl, Or.inl ⟨rfl, rfl, fun c c0 c1 => by omega⟩, rfl⟩, ?_⟩
  rintro n x4 x5 x6 x7 gl ⟨rfl, a0, a1, a2, a3, a4, a5⟩
  have s01 := @iv_sm_01 R p x7.toNat
  have lar := iv_la_r (m := m) hr x7.toNat (by omega)
  rw [← a2] at s01
  have x4r : jv_r x4 := by
    rcases a4 with ⟨_, e, _⟩ | ⟨_, e, _⟩
    · rw [e]; exact ha
    · unfold jv_r; omega
  refine ⟨(by unfold jv_r; omega), fun h => ⟨(by unfold jv_r; omega), fun h6 => ?_, fun h6 => ?_⟩, fun h => ⟨by omega, ?_⟩⟩
  · have e : x7.toNat = 9 := by omega
    rw [e] at a2 a3
    have e2 : iv_sl R p m (gl 137 p) = -1 := by unfold iv_sl; rw [if_neg (by omega)]
    rw [e2] at hQ; exact hQ
  · have e : x7.toNat = 9 := by omega
    rw [e] at a2 a3
    have e2 : iv_sl R p m (gl 137 p) = x4 := by
      unfold iv_sl
      rw [if_pos ⟨a3, by omega⟩]
      rcases a4 with ⟨_, e4, hall⟩ | ⟨_, e4, c, c0, c1, hc⟩
      · rw [if_pos (ib_511 m01.1 m01.2 (fun c c0 c1 => hall c c0 (by omega))), e4]
      · rw [if_neg (fun e5 => by rw [e5, ib_511' c0 (by omega)] at hc; omega), e4, e]
    rw [← e2]; exact hQ
  · rintro v8 rfl
    have e6 : ((x7.toNat : Nat) : Int) = x7 := by omega
    have rr := hr x7 a0 h
    have rE := hR x7 a0 h
    have bb := ib_m m01.1 m01.2 a0 h
    have body : ∀ y : Int, y = iv_sm R p (x7.toNat + 1) → wB_X9_solved_65 Q (fun x1' x2' x3' x4' g' => ∃ n', n' < n ∧ g' = gl ∧ 0 ≤ x4' ∧ x4' ≤ 9 ∧ x3' = iv_sm R p x4'.toNat ∧ iv_al R p m x4'.toNat = 1 ∧ ((x2' = 1 ∧ x1' = gl 137 p ∧ ∀ c, 0 ≤ c → c < x4' → ¬ iv_bit m c = 0) ∨ (x2' = 0 ∧ x1' = iv_la R p m x4'.toNat ∧ ∃ c, 0 ≤ c ∧ c < x4' ∧ iv_bit m c = 0)) ∧ n' = (9 - x4').toNat) m (gl 144 (((180 * s) + (9 * p)) + x7)) x4 x5 x7 y gl := by
      intro y ey
      unfold wB_X9_solved_65
      refine ⟨ir_and, fun hb => ?_, fun hb => ⟨(by unfold jv_r; omega), fun h8 => ⟨by rcases a4 with ⟨e, _⟩ | ⟨e, _⟩ <;> (unfold jv_r; omega), fun h5 => ?_, fun h5 => ⟨⟨(by unfold jv_r; omega), x4r⟩, fun h9 => ?_, fun h9 => ?_⟩⟩, fun h8 => ?_⟩⟩
      · intro v7 e7
        have e : v7.toNat = x7.toNat + 1 := by omega
        rw [bit_eq] at hb
        refine ⟨(9 - v7).toNat, by omega, rfl, by omega, by omega, by rw [e]; exact ey, ?_, ?_, rfl⟩
        · rw [e]; simp only [iv_al]; rw [e6, if_neg (by omega)]; exact a3
        · rcases a4 with ⟨q1, q2, q3⟩ | ⟨q1, q2, c, c0, c1, hc⟩
          · refine Or.inl ⟨q1, q2, fun c c0 c1 => ?_⟩
            by_cases ec : c = x7
            · rw [ec]; exact hb
            · exact q3 c c0 (by omega)
          · refine Or.inr ⟨q1, ?_, c, c0, by omega, hc⟩
            rw [e]; simp only [iv_la]; rw [e6, if_neg hb]; exact q2
      · intro v7 e7
        have e : v7.toNat = x7.toNat + 1 := by omega
        rw [bit_eq] at hb
        refine ⟨(9 - v7).toNat, by omega, rfl, by omega, by omega, by rw [e]; exact ey, ?_, ?_, rfl⟩
        · rw [e]; simp only [iv_al]; rw [e6, if_neg (by omega)]; exact a3
        · rcases a4 with ⟨q1, q2, q3⟩ | ⟨q1, q2, c, c0, c1, hc⟩
          · refine Or.inr ⟨rfl, ?_, x7, a0, by omega, hb⟩
            rw [e]; simp only [iv_la]; rw [e6, if_pos hb, iv_la_all x7.toNat (fun c c0 c1 => q3 c c0 (by omega)), if_pos (by omega), rE]
          · omega
      · intro v7 e7
        have e : v7.toNat = x7.toNat + 1 := by omega
        rw [bit_eq] at hb
        refine ⟨(9 - v7).toNat, by omega, rfl, by omega, by omega, by rw [e]; exact ey, ?_, ?_, rfl⟩
        · rw [e]; simp only [iv_al]; rw [e6, if_neg (by omega)]; exact a3
        · rcases a4 with ⟨q1, q2, q3⟩ | ⟨q1, q2, c, c0, c1, hc⟩
          · omega
          · refine Or.inr ⟨rfl, ?_, x7, a0, by omega, hb⟩
            rw [e]; simp only [iv_la]; rw [e6, if_pos hb, if_neg (by omega)]; exact q2
      · intro v7 e7
        have e : v7.toNat = x7.toNat + 1 := by omega
        rw [bit_eq] at hb
        refine ⟨(9 - v7).toNat, by omega, rfl, by omega, by omega, by rw [e]; exact ey, ?_, ?_, rfl⟩
        · rw [e]; simp only [iv_al]; rw [e6, if_neg (by omega)]; exact a3
        · rcases a4 with ⟨q1, q2, q3⟩ | ⟨q1, q2, c, c0, c1, hc⟩
          · omega
          · refine Or.inr ⟨rfl, ?_, x7, a0, by omega, hb⟩
            rw [e]; simp only [iv_la]; rw [e6, if_pos hb, if_pos (by omega), rE]
      · rw [bit_eq] at hb
        have e2 : iv_sl R p m (gl 137 p) = -1 := by
          unfold iv_sl
          rw [if_neg (fun hc => iv_al_0 (n := x7.toNat + 1) (by simp only [iv_al]; rw [e6, if_pos ⟨by omega, hb⟩]; decide) 9 (by omega) hc.1)]
        rw [e2] at hQ; exact hQ
    refine ⟨(by unfold jv_r; omega), fun h6 => body 1 ?_, fun h6 => ⟨(by unfold jv_r; omega), fun h8 => body 0 ?_, fun h8 => body 1 ?_⟩⟩
    · simp only [iv_sm]; rw [e6]; split <;> omega
    · simp only [iv_sm]; rw [e6, if_pos (by omega)]; omega
    · simp only [iv_sm]; rw [e6, if_neg (by omega)]
theorem u_runM {s d r y : Int} {f : Int → Int} {Q : Int → jv_Mem → Prop} {g : jv_Mem} (s0 : 0 ≤ s) (s1 : s < 6) (h1 : d < 1252) (hf : ∀ k, 0 ≤ k → k < 1252 → f k = g 147 ((1260 * s) + k) ∧ (f k = 0 ∨ f k = 1)) (hx : -1 ≤ d) (ed : d = r - y) (hQ : Q (iv_run f (d + 1).toNat) g) : wB_X9_streakOf_32 s Q r y g := by
  unfold wB_X9_streakOf_32
  intro v2 ev
  refine ⟨fun n x4 x3 gl => gl = g ∧ -1 ≤ x4 ∧ x4 ≤ d ∧ x3 + iv_run f (x4 + 1).toNat = iv_run f (d + 1).toNat ∧ n = (x4 + 1).toNat, ⟨_, rfl, by omega, by omega, by rw [ev, ed]; omega, rfl⟩, ?_⟩
  rintro n x4 x3 gl ⟨rfl, a0, a1, a2, a3⟩
  refine ⟨(by unfold jv_r; omega), fun h => ?_, fun h => ?_⟩
  · have e : (x4 + 1).toNat = 0 := by omega
    rw [e] at a2
    simp only [iv_run] at a2
    have e2 : x3 = iv_run f (d + 1).toNat := by omega
    rw [e2]; exact hQ
  · have hf4 := hf x4 (by omega) (by omega)
    have e : (x4 + 1).toNat = x4.toNat + 1 := by omega
    have e' : ((x4.toNat : Nat) : Int) = x4 := by omega
    rw [e] at a2
    simp only [iv_run] at a2
    rw [e'] at a2
    refine ⟨by omega, (by unfold jv_r; omega), fun hz => ?_, fun hz => ?_⟩
    · rw [if_pos (by omega)] at a2
      have e2 : x3 = iv_run f (d + 1).toNat := by omega
      rw [e2]; exact hQ
    · intro v3 e3 v4 e4
      rw [if_neg (by omega)] at a2
      have e5 : (v4 + 1).toNat = x4.toNat := by omega
      refine ⟨(v4 + 1).toNat, by omega, rfl, by omega, by omega, ?_, rfl⟩
      rw [e5]; omega
theorem u_streakOf {s : Int} {f : Int → Int} {Q : Int → jv_Mem → Prop} {g : jv_Mem} (s0 : 0 ≤ s) (s1 : s < 6) (o0 : -12 ≤ g 142 s) (o1 : g 142 s ≤ 14) (h0 : 0 ≤ g 126 15) (h1 : g 126 15 ≤ 30000) (hf : ∀ k, 0 ≤ k → k < 1252 → f k = g 147 ((1260 * s) + k) ∧ (f k = 0 ∨ f k = 1)) (hQ : Q (iv_stk f (iv_day (g 142 s) (g 126 15))) g) : wp_X9_streakOf s Q g := by
  unfold wp_X9_streakOf
  have d0 : 0 ≤ iv_day (g 142 s) (g 126 15) ∧ iv_day (g 142 s) (g 126 15) < 1252 := by unfold iv_day; omega
  have hd := hf _ d0.1 d0.2
  refine u_dayOf s0 s1 (by omega) (by omega) ⟨by omega, (by unfold jv_r; omega), fun hz => ?_, fun hz => ?_⟩
  · refine u_runM (f := f) (d := iv_day (g 142 s) (g 126 15) - 1) s0 s1 (by omega) hf (by omega) rfl ?_
    unfold iv_stk at hQ
    rw [if_pos (by omega)] at hQ
    have e : (iv_day (g 142 s) (g 126 15) - 1 + 1) = iv_day (g 142 s) (g 126 15) := by omega
    rw [e]; exact hQ
  · refine u_runM (f := f) (d := iv_day (g 142 s) (g 126 15)) s0 s1 (by omega) hf (by omega) (by omega) ?_
    unfold iv_stk at hQ
    rw [if_neg (by omega)] at hQ
    exact hQ
