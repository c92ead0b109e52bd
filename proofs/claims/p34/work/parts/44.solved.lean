theorem iv_sm_01 {R : Int → Int} {p : Int} : ∀ n : Nat, iv_sm R p n = 0 ∨ iv_sm R p n = 1 := by
  intro n
  induction n with
  | zero => exact Or.inl rfl
  | succ n ih => simp only [iv_sm]; split <;> simp [ih]
theorem iv_al_0 {R : Int → Int} {p m : Int} {n : Nat} (h : iv_al R p m n ≠ 1) : ∀ k : Nat, n ≤ k → iv_al R p m k ≠ 1 := by
  intro k
  induction k with
  | zero => intro hk; have e : n = 0 := by omega
            rw [e] at h; exact h
  | succ k ih =>
    intro hk
    by_cases e : n = k + 1
    · rw [← e]; exact h
    · have := ih (by omega)
      simp only [iv_al]
      split
      · decide
      · exact this
theorem iv_la_r {R : Int → Int} {p m : Int} (hr : ∀ c, 0 ≤ c → c < 9 → -1 ≤ R (p * 9 + c) ∧ R (p * 9 + c) ≤ 30001) : ∀ n : Nat, n ≤ 9 → -1 ≤ iv_la R p m n ∧ iv_la R p m n ≤ 30001 := by
  intro n
  induction n with
  | zero => intro _; simp [iv_la]
  | succ n ih =>
    intro hn
    have h1 := ih (by omega)
    have h2 := hr (n : Nat) (by omega) (by omega)
    simp only [iv_la]
    split
    · split <;> omega
    · exact h1
theorem iv_la_all {R : Int → Int} {p m : Int} : ∀ n : Nat, (∀ c : Int, 0 ≤ c → c < n → ¬ iv_bit m c = 0) → iv_la R p m n = -1 := by
  intro n
  induction n with
  | zero => intro _; rfl
  | succ n ih =>
    intro h
    simp only [iv_la]
    rw [if_neg (h n (by omega) (by omega))]
    exact ih (fun c a b => h c a (by omega))
theorem iv_sl_r {R : Int → Int} {p m a : Int} (hr : ∀ c, 0 ≤ c → c < 9 → -1 ≤ R (p * 9 + c) ∧ R (p * 9 + c) ≤ 30001) (ha : 0 ≤ a ∧ a ≤ 30001) : -1 ≤ iv_sl R p m a ∧ iv_sl R p m a ≤ 30001 := by
  unfold iv_sl
  have := iv_la_r (m := m) hr 9 (by omega)
  split
  · split <;> omega
  · omega
theorem u_isRight {t p c : Int} {Q : Int → jv_Mem → Prop} {g : jv_Mem} (p0 : 0 ≤ p) (p1 : p < 20) (c0 : 0 ≤ c) (c1 : c < 9) (hr : jv_r (g (t + 1) ((p * 9) + c))) (h1 : ¬ g (t + 1) ((p * 9) + c) = -1 → Q 1 g) (h2 : g (t + 1) ((p * 9) + c) = -1 → Q 0 g) : wp_X2_isRight t p c Q g :=
  ⟨by omega, hr, h2, h1⟩
theorem u_solvedHour {t p m a : Int} {Q : Int → jv_Mem → Prop} {g : jv_Mem} (p0 : 0 ≤ p) (p1 : p < 20) (m0 : 0 ≤ m) (m1 : m < 512) (hr : ∀ c, 0 ≤ c → c < 9 → -1 ≤ g (t + 1) (p * 9 + c) ∧ g (t + 1) (p * 9 + c) ≤ 30001) (hQ : Q (iv_sl (g (t + 1)) p m a) g) : wp_X2_solvedHour t p m a Q g := by
  unfold wp_X2_solvedHour
  refine ⟨fun n x4 x5 x6 gl => gl = g ∧ 0 ≤ x6 ∧ x6 ≤ 9 ∧ x4 = iv_sm (g (t + 1)) p x6.toNat ∧ x5 = iv_la (g (t + 1)) p m x6.toNat ∧ iv_al (g (t + 1)) p m x6.toNat = 1 ∧ n = (9 - x6).toNat, ⟨9, rfl, by omega, by omega, rfl, rfl, rfl, rfl⟩, ?_⟩
  rintro n x4 x5 x6 gl ⟨rfl, a0, a1, a2, a3, a4, a5⟩
  have s01 := @iv_sm_01 (gl (t + 1)) p x6.toNat
  have lar := iv_la_r (m := m) hr x6.toNat (by omega)
  rw [← a2] at s01
  rw [← a3] at lar
  refine ⟨(by unfold jv_r; omega), fun h => ⟨(by unfold jv_r; omega), fun h4 => ⟨(by unfold jv_r; omega), fun h5 => ?_, fun h5 => ?_⟩, fun h4 => ?_⟩, fun h => ?_⟩
  · have e : x6.toNat = 9 := by omega
    rw [e] at a2 a3 a4
    have e2 : iv_sl (gl (t + 1)) p m a = x5 := by unfold iv_sl; rw [if_pos ⟨a4, by omega⟩, if_neg h5, a3]
    rw [← e2]; exact hQ
  · have e : x6.toNat = 9 := by omega
    rw [e] at a2 a3 a4
    have e2 : iv_sl (gl (t + 1)) p m a = a := by unfold iv_sl; rw [if_pos ⟨a4, by omega⟩, if_pos h5]
    rw [← e2]; exact hQ
  · have e : x6.toNat = 9 := by omega
    rw [e] at a2 a3 a4
    have e2 : iv_sl (gl (t + 1)) p m a = -1 := by unfold iv_sl; rw [if_neg (by omega)]
    rw [e2] at hQ; exact hQ
  · have e6 : ((x6.toNat : Nat) : Int) = x6 := by omega
    have rr := hr x6 a0 h
    have bb := ib_m m0 m1 a0 h
    have step : ∀ y v4 v5 v6 : Int, v6 = x6 + 1 → v4 = (if gl (t + 1) (p * 9 + x6) = -1 then x4 else 1) → v5 = (if iv_bit m x6 = 0 then (if x5 < gl (t + 1) (p * 9 + x6) then gl (t + 1) (p * 9 + x6) else x5) else x5) → ¬ (gl (t + 1) (p * 9 + x6) = -1 ∧ iv_bit m x6 = 0) → ∃ n', n' < n ∧ gl = gl ∧ 0 ≤ v6 ∧ v6 ≤ 9 ∧ v4 = iv_sm (gl (t + 1)) p v6.toNat ∧ v5 = iv_la (gl (t + 1)) p m v6.toNat ∧ iv_al (gl (t + 1)) p m v6.toNat = 1 ∧ n' = (9 - v6).toNat := by
      intro y v4 v5 v6 e1 e2 e3 e4
      have e5 : v6.toNat = x6.toNat + 1 := by omega
      refine ⟨(9 - v6).toNat, by omega, rfl, by omega, by omega, ?_, ?_, ?_, rfl⟩
      · rw [e5, e2, a2]; simp only [iv_sm]; rw [e6]
      · rw [e5, e3, a3]; simp only [iv_la]; rw [e6]
      · rw [e5]; simp only [iv_al]; rw [e6, if_neg e4]; exact a4
    have body : ∀ y0 : Int, y0 = iv_bit m x6 → wB_X2_solvedHour_30 t p Q (fun x1' x2' x3' g' => ∃ n', n' < n ∧ g' = gl ∧ 0 ≤ x3' ∧ x3' ≤ 9 ∧ x1' = iv_sm (gl (t + 1)) p x3'.toNat ∧ x2' = iv_la (gl (t + 1)) p m x3'.toNat ∧ iv_al (gl (t + 1)) p m x3'.toNat = 1 ∧ n' = (9 - x3').toNat) x4 x5 x6 y0 gl := by
      intro y0 ey
      unfold wB_X2_solvedHour_30
      have tail : ∀ v4 : Int, ¬ (gl (t + 1) (p * 9 + x6) = -1 ∧ iv_bit m x6 = 0) → v4 = (if gl (t + 1) (p * 9 + x6) = -1 then x4 else 1) → wB_X2_solvedHour_61 t p (fun x1' x2' x3' g' => ∃ n', n' < n ∧ g' = gl ∧ 0 ≤ x3' ∧ x3' ≤ 9 ∧ x1' = iv_sm (gl (t + 1)) p x3'.toNat ∧ x2' = iv_la (gl (t + 1)) p m x3'.toNat ∧ iv_al (gl (t + 1)) p m x3'.toNat = 1 ∧ n' = (9 - x3').toNat) x5 x6 y0 v4 gl := by
        intro v4 h1 h2
        unfold wB_X2_solvedHour_61
        refine ⟨(by unfold jv_r; omega), fun hy => ?_, fun hy => ⟨by omega, ⟨(by unfold jv_r; omega), (by unfold jv_r; omega)⟩, ?_⟩⟩
        · intro v6 e
          exact step 0 v4 x5 v6 e h2 (by rw [if_neg (by omega)]) h1
        · intro v5 e5 v6 e
          exact step 0 v4 v5 v6 e h2 (by rw [if_pos (by omega)]; exact e5) h1
      refine u_isRight p0 p1 a0 h (by unfold jv_r; omega) (fun hh => ?_) (fun hh => ?_)
      · refine ⟨r01.2.1, fun _ => ⟨r01.2.1, fun h9 => absurd h9 (by omega), fun _ => ?_⟩, fun h9 => absurd h9 (by omega)⟩
        exact tail 1 (by omega) (by rw [if_neg hh])
      · refine ⟨r01.1, fun h9 => absurd rfl h9, fun _ => ⟨(by unfold jv_r; omega), fun hy => ⟨r01.1, fun _ => ?_, fun h9 => absurd rfl h9⟩, fun hy => ?_⟩⟩
        · exact tail x4 (by omega) (by rw [if_pos hh])
        · have e2 : iv_sl (gl (t + 1)) p m a = -1 := by
            unfold iv_sl
            rw [if_neg (fun hc => iv_al_0 (n := x6.toNat + 1) (by simp only [iv_al]; rw [e6, if_pos ⟨hh, by omega⟩]; decide) 9 (by omega) hc.1)]
          rw [e2] at hQ; exact hQ
    exact ⟨ir_and, fun hb => body 0 (by rw [bit_eq] at hb; omega), fun hb => body 1 (by rw [bit_eq] at hb; omega)⟩
