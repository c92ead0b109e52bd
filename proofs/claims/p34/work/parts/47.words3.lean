theorem u_putInOrder {n : Int} {Q : jv_Mem → Prop} {g : jv_Mem} (n0 : 0 ≤ n) (n1 : n < 30) (ho : ∀ i, 0 ≤ i → i < n → 0 ≤ g 7 i ∧ g 7 i < n) (hc : ∀ w, 0 ≤ w → w ≤ n → jv_r (g 4 w)) (hQ : ∀ (g' : jv_Mem) (p : Int), 0 ≤ p → p ≤ n → (∀ i k, i ≠ 7 → g' i k = g i k) → (∀ i, 0 ≤ i → i < p → g' 7 i = g 7 i) → g' 7 p = n → (∀ i, p < i → i ≤ n → g' 7 i = g 7 (i - 1)) → (0 < p → g 4 (g 7 (p - 1)) ≤ g 4 n) → (∀ i, p ≤ i → i < n → g 4 n < g 4 (g 7 i)) → Q g') : wp_X7_putInOrder n Q g := by
  unfold wp_X7_putInOrder
  refine ⟨fun m x2 gl => 0 ≤ x2 ∧ x2 ≤ n ∧ (∀ i k, i ≠ 7 → gl i k = g i k) ∧ (∀ i, 0 ≤ i → i < x2 → gl 7 i = g 7 i) ∧ (∀ i, x2 < i → i ≤ n → gl 7 i = g 7 (i - 1)) ∧ (∀ i, x2 ≤ i → i < n → g 4 n < g 4 (g 7 i)) ∧ m = x2.toNat, ⟨_, n0, by omega, fun _ _ _ => rfl, fun _ _ _ => rfl, fun i i0 i1 => by omega, fun i i0 i1 => by omega, rfl⟩, ?_⟩
  rintro m x2 gl ⟨a0, a1, a2, a3, a4, a5, a6⟩
  have fin : (0 < x2 → g 4 (g 7 (x2 - 1)) ≤ g 4 n) → wB_X7_putInOrder_48 n Q x2 gl := by
    intro hle
    refine ⟨by omega, ?_⟩
    rintro g1 rfl
    refine hQ _ x2 a0 a1 (fun i k p => by rw [jv_up_n (fun hh => p hh.1)]; exact a2 i k p) (fun i i0 i1 => by rw [jv_up_n (by omega)]; exact a3 i i0 i1) (jv_up_e rfl rfl) (fun i i0 i1 => by rw [jv_up_n (by omega)]; exact a4 i i0 i1) hle a5
  refine ⟨(by unfold jv_r; omega), fun h => fin (fun h9 => by omega), fun h => ?_⟩
  have e1 := a3 (x2 - 1) (by omega) (by omega)
  have h7 := ho (x2 - 1) (by omega) (by omega)
  have e4 : ∀ w, gl 4 w = g 4 w := fun w => a2 4 w (by omega)
  rw [e1, e4, e4]
  refine ⟨by omega, by omega, by omega, ⟨hc _ h7.1 (by omega), hc _ n0 (by omega)⟩, fun hle => fin (fun _ => hle), fun hgt => ⟨by omega, by omega, ?_⟩⟩
  rintro g1 rfl v2 e2
  refine ⟨v2.toNat, by omega, by omega, by omega, fun i k p => by rw [jv_up_n (fun hh => p hh.1)]; exact a2 i k p, fun i i0 i1 => by rw [jv_up_n (by omega)]; exact a3 i i0 (by omega), fun i i0 i1 => ?_, fun i i0 i1 => ?_, rfl⟩
  · by_cases e : i = x2
    · rw [jv_up_e rfl e, e]
    · rw [jv_up_n (by omega)]; exact a4 i (by omega) i1
  · by_cases e : i = x2 - 1
    · rw [e]; exact hgt
    · exact a5 i (by omega) i1
theorem u_add {c wt : Int} {Q : Int → jv_Mem → Prop} {g : jv_Mem} (n0 : 0 ≤ g 3 6) (n1 : g 3 6 < 30) (c0 : 729 ≤ c) (c1 : c < 1458) (ho : ∀ i, 0 ≤ i → i < g 3 6 → 0 ≤ g 7 i ∧ g 7 i < g 3 6) (hc : ∀ w, 0 ≤ w → w < g 3 6 → jv_r (g 4 w)) (hQ : ∀ (g' : jv_Mem) (p : Int), 0 ≤ p → p ≤ g 3 6 → (∀ i k, i ≠ 4 → i ≠ 5 → i ≠ 6 → i ≠ 7 → i ≠ 8 → i ≠ 9 → ¬ (i = 3 ∧ k = 6) → g' i k = g i k) →
    (∀ k, g' 4 k = if k = g 3 6 then c else g 4 k) → (∀ k, g' 6 k = if k = g 3 6 then wt else g 6 k) → (∀ k, g' 9 k = if k = c then g 3 6 else g 9 k) →
    (∀ k, g' 5 k = if k = g 3 6 * 3 + 2 then c % 9 else if k = g 3 6 * 3 + 1 then c / 9 % 9 else if k = g 3 6 * 3 + 0 then c / 9 / 9 % 9 else g 5 k) →
    (∀ k, g' 8 k = g 8 k + (if k = c ∨ k = c / 9 ∨ k = c / 9 / 9 ∨ k = 1 then 1 else 0)) → g' 3 6 = g 3 6 + 1 →
    (∀ i, 0 ≤ i → i < p → g' 7 i = g 7 i) → g' 7 p = g 3 6 → (∀ i, p < i → i ≤ g 3 6 → g' 7 i = g 7 (i - 1)) → (0 < p → g 4 (g 7 (p - 1)) ≤ c) → (∀ i, p ≤ i → i < g 3 6 → c < g 4 (g 7 i)) → Q (g 3 6) g') : wp_X7_add c wt Q g := by
  unfold wp_X7_add
  rintro v3 rfl
  refine ⟨⟨n0, n1⟩, ?_⟩
  rintro g1 rfl
  refine ⟨⟨n0, n1⟩, ?_⟩
  rintro g2 rfl
  refine ⟨by omega, ?_⟩
  rintro g3 rfl
  generalize hn : g 3 6 = n at *
  have r7 : jv_up (jv_up (jv_up g 4 n c) 6 n wt) 9 c n 7 = g 7 := by simp (disch := omega) only [jv_up_e, jv_up_i, jv_up_k, jv_up_row, true_and, and_true]
  have r4 : ∀ w, jv_up (jv_up (jv_up g 4 n c) 6 n wt) 9 c n 4 w = if w = n then c else g 4 w := fun w => by
    by_cases e : w = n
    · rw [if_pos e]; simp (disch := omega) only [jv_up_e, jv_up_i, jv_up_k, jv_up_row, true_and, and_true]
    · rw [if_neg e]; simp (disch := omega) only [jv_up_e, jv_up_i, jv_up_k, jv_up_row, true_and, and_true]
  refine u_putInOrder n0 n1 (by rw [r7]; exact ho) (fun w w0 w1 => ?_) (fun g' p p0 p1 b1 b2 b3 b4 b5 b6 => ?_)
  · rw [r4]
    split
    · unfold jv_r; omega
    · exact hc w w0 (by omega)
  · rw [r7] at b2 b4 b5 b6
    have r4n : jv_up (jv_up (jv_up g 4 n c) 6 n wt) 9 c n 4 n = c := by rw [r4, if_pos rfl]
    rw [r4n] at b5 b6
    have d1 : jv_div c 9 = c / 9 := iv_div (by omega) (by omega) (by omega) (by omega)
    have d2 : jv_div (c / 9) 9 = c / 9 / 9 := iv_div (by omega) (by omega) (by omega) (by omega)
    have m0 : jv_rem c 9 = c % 9 := iv_rem (by omega) (by omega) (by omega) (by omega)
    have m1 : jv_rem (c / 9) 9 = c / 9 % 9 := iv_rem (by omega) (by omega) (by omega) (by omega)
    have m2 : jv_rem (c / 9 / 9) 9 = c / 9 / 9 % 9 := iv_rem (by omega) (by omega) (by omega) (by omega)
    refine jv_lp2.un 4 ⟨(by unfold jv_r; omega), fun h => by omega, fun _ => ⟨by omega, ?_⟩⟩
    rintro h1 e1
    refine ⟨by omega, by omega, ?_⟩
    rintro h2 e2 v4 rfl v5 rfl
    refine jv_J2_s ⟨(by unfold jv_r; omega), fun h => by omega, fun _ => ⟨by omega, ?_⟩⟩
    rintro h3 e3
    rw [d1]
    refine ⟨by omega, by omega, ?_⟩
    rintro h4 e4 v4 rfl v5 rfl
    refine jv_J2_s ⟨(by unfold jv_r; omega), fun h => by omega, fun _ => ⟨by omega, ?_⟩⟩
    rintro h5 e5
    rw [d2]
    refine ⟨by omega, by omega, ?_⟩
    rintro h6 e6 v4 rfl v5 rfl
    refine jv_J2_s ⟨(by unfold jv_r; omega), fun _ => ⟨by omega, by omega, ?_⟩, fun h => by omega⟩
    rintro h7 e7 h8 e8
    rw [m0] at e1
    rw [d1, m1] at e3
    rw [d2, m2] at e5
    have fr : ∀ i k, i ≠ 5 → i ≠ 8 → ¬ (i = 3 ∧ k = 6) → h8 i k = g' i k := fun i k p1 p2 p3 => by
      rw [e8, jv_up_n (by omega), e7, jv_up_n (by omega), e6, jv_up_n (by omega), e5, jv_up_n (by omega), e4, jv_up_n (by omega), e3, jv_up_n (by omega), e2, jv_up_n (by omega), e1, jv_up_n (by omega)]
    have f7 : ∀ k, h8 7 k = g' 7 k := fun k => fr 7 k (by omega) (by omega) (by omega)
    refine hQ h8 p p0 p1 (fun i k p1 p2 p3 p4 p5 p6 p7 => ?_) (fun k => ?_) (fun k => ?_) (fun k => ?_) (fun k => ?_) (fun k => ?_) ?_ (fun i i0 i1 => ?_) ?_ (fun i i0 i1 => ?_) (fun hp => by have h9 := b5 hp; rw [r4, if_neg (by have := ho (p - 1) (by omega) (by omega); omega)] at h9; exact h9) ?_
    · rw [fr i k p2 p5 p7, b1 i k p4, jv_up_n (by omega), jv_up_n (by omega), jv_up_n (by omega)]
    · rw [fr 4 k (by omega) (by omega) (by omega), b1 4 k (by omega)]; exact r4 k
    · rw [fr 6 k (by omega) (by omega) (by omega), b1 6 k (by omega)]
      by_cases e : k = n
      · rw [if_pos e]; simp (disch := omega) only [jv_up_e, jv_up_i, jv_up_k, jv_up_row, true_and, and_true]
      · rw [if_neg e]; simp (disch := omega) only [jv_up_e, jv_up_i, jv_up_k, jv_up_row, true_and, and_true]
    · rw [fr 9 k (by omega) (by omega) (by omega), b1 9 k (by omega)]
      by_cases e : k = c
      · rw [if_pos e]; simp (disch := omega) only [jv_up_e, jv_up_i, jv_up_k, jv_up_row, true_and, and_true]
      · rw [if_neg e]; simp (disch := omega) only [jv_up_e, jv_up_i, jv_up_k, jv_up_row, true_and, and_true]
    · have f5 : g' 5 k = g 5 k := by rw [b1 5 k (by omega)]; simp (disch := omega) only [jv_up_e, jv_up_i, jv_up_k, jv_up_row, true_and, and_true]
      rw [← f5, e8, jv_up_n (by omega), e7, jv_up_n (by omega), e6, jv_up_n (by omega), e5]
      by_cases k2 : k = n * 3 + 2
      · rw [if_pos k2, jv_up_n (by omega), e4, jv_up_n (by omega), e3, jv_up_n (by omega), e2, jv_up_n (by omega), e1, jv_up_e rfl k2]
      · rw [if_neg k2]
        by_cases k1 : k = n * 3 + 1
        · rw [if_pos k1, jv_up_n (by omega), e4, jv_up_n (by omega), e3, jv_up_e rfl (by omega)]
        · rw [if_neg k1]
          by_cases k0 : k = n * 3 + 0
          · rw [if_pos k0, jv_up_e rfl (by omega)]
          · rw [if_neg k0, jv_up_n (by omega), e4, jv_up_n (by omega), e3, jv_up_n (by omega), e2, jv_up_n (by omega), e1, jv_up_n (by omega)]
    · have f8 : ∀ k, h1 8 k = g 8 k := fun k => by rw [e1, jv_up_n (by omega), b1 8 k (by omega)]; simp (disch := omega) only [jv_up_e, jv_up_i, jv_up_k, jv_up_row, true_and, and_true]
      rw [e8, jv_up_n (by omega)]
      have q2 : ∀ k, h2 8 k = if k = c then g 8 k + 1 else g 8 k := fun k => by
        by_cases e : k = c
        · rw [if_pos e, e2, jv_up_e rfl e, f8, e]
        · rw [if_neg e, e2, jv_up_n (by omega), f8]
      have q3 : ∀ k, h3 8 k = h2 8 k := fun k => by rw [e3, jv_up_n (by omega)]
      have q4 : ∀ k, h4 8 k = if k = c / 9 then h2 8 k + 1 else h2 8 k := fun k => by
        by_cases e : k = c / 9
        · rw [if_pos e, e4, jv_up_e rfl e, q3, e]
        · rw [if_neg e, e4, jv_up_n (by omega), q3]
      have q5 : ∀ k, h5 8 k = h4 8 k := fun k => by rw [e5, jv_up_n (by omega)]
      have q6 : ∀ k, h6 8 k = if k = c / 9 / 9 then h4 8 k + 1 else h4 8 k := fun k => by
        by_cases e : k = c / 9 / 9
        · rw [if_pos e, e6, jv_up_e rfl e, q5, e]
        · rw [if_neg e, e6, jv_up_n (by omega), q5]
      have q7 : ∀ k, h7 8 k = if k = 1 then h6 8 k + 1 else h6 8 k := fun k => by
        by_cases e : k = 1
        · rw [if_pos e, e7, jv_up_e rfl e, e]
        · rw [if_neg e, e7, jv_up_n (by omega)]
      rw [q7, q6, q4, q2]
      repeat' split
      all_goals omega
    · rw [e8, jv_up_e rfl rfl]
      have : h7 3 6 = g 3 6 := by
        rw [e7, jv_up_n (by omega), e6, jv_up_n (by omega), e5, jv_up_n (by omega), e4, jv_up_n (by omega), e3, jv_up_n (by omega), e2, jv_up_n (by omega), e1, jv_up_n (by omega), b1 3 6 (by omega)]
        simp (disch := omega) only [jv_up_e, jv_up_i, jv_up_k, jv_up_row, true_and, and_true]
      rw [this, hn]
    · rw [f7]; exact b2 i i0 i1
    · rw [f7]; exact b3
    · rw [f7]; exact b4 i i0 i1
    · intro i i0 i1
      have h9 := b6 i i0 i1
      rw [r4, if_neg (by have := ho i (by omega) i1; omega)] at h9
      exact h9

