/-! a cell becomes right -/
theorem u_X1add {s p c h : Int} {Q : jv_Mem → Prop} {g : jv_Mem} (n0 : 0 ≤ g 21 4) (n1 : g 21 4 < 1200) (hQ : ∀ g' : jv_Mem, (∀ i k, i ≠ 22 → i ≠ 23 → i ≠ 24 → i ≠ 25 → ¬ (i = 21 ∧ k = 4) → g' i k = g i k) → g' 21 4 = g 21 4 + 1 → (∀ k, g' 22 k = if k = g 21 4 then s else g 22 k) → (∀ k, g' 23 k = if k = g 21 4 then p else g 23 k) → (∀ k, g' 24 k = if k = g 21 4 then c else g 24 k) → (∀ k, g' 25 k = if k = g 21 4 then h else g 25 k) → Q g') : wp_X1_add s p c h Q g := by
  unfold wp_X1_add
  refine ⟨(by unfold jv_r; omega), fun h9 => by omega, fun _ => ⟨by omega, ?_⟩⟩
  rintro g1 e1
  have q1 : g1 21 4 = g 21 4 := by rw [e1]; exact jv_up_n (by omega)
  rw [q1]
  refine ⟨by omega, ?_⟩
  rintro g2 e2
  have q2 : g2 21 4 = g 21 4 := by rw [e2, jv_up_n (by omega)]; exact q1
  rw [q2]
  refine ⟨by omega, ?_⟩
  rintro g3 e3
  have q3 : g3 21 4 = g 21 4 := by rw [e3, jv_up_n (by omega)]; exact q2
  rw [q3]
  refine ⟨by omega, ?_⟩
  rintro g4 e4
  have q4 : g4 21 4 = g 21 4 := by rw [e4, jv_up_n (by omega)]; exact q3
  rw [q4]
  rintro g5 e5
  refine hQ g5 (fun i k p1 p2 p3 p4 p5 => by rw [e5, jv_up_n p5, e4, jv_up_n (by omega), e3, jv_up_n (by omega), e2, jv_up_n (by omega), e1, jv_up_n (by omega)]) (by rw [e5, jv_up_e rfl rfl]) (fun k => ?_) (fun k => ?_) (fun k => ?_) (fun k => ?_)
  · rw [e5, jv_up_n (by omega), e4, jv_up_n (by omega), e3, jv_up_n (by omega), e2, jv_up_n (by omega), e1]
    by_cases e : k = g 21 4
    · rw [jv_up_e rfl e, if_pos e]
    · rw [jv_up_n (fun hh => e hh.2), if_neg e]
  · rw [e5, jv_up_n (by omega), e4, jv_up_n (by omega), e3, jv_up_n (by omega), e2]
    by_cases e : k = g 21 4
    · rw [jv_up_e rfl e, if_pos e]
    · rw [jv_up_n (fun hh => e hh.2), if_neg e, e1, jv_up_n (by omega)]
  · rw [e5, jv_up_n (by omega), e4, jv_up_n (by omega), e3]
    by_cases e : k = g 21 4
    · rw [jv_up_e rfl e, if_pos e]
    · rw [jv_up_n (fun hh => e hh.2), if_neg e, e2, jv_up_n (by omega), e1, jv_up_n (by omega)]
  · rw [e5, jv_up_n (by omega), e4]
    by_cases e : k = g 21 4
    · rw [jv_up_e rfl e, if_pos e]
    · rw [jv_up_n (fun hh => e hh.2), if_neg e, e3, jv_up_n (by omega), e2, jv_up_n (by omega), e1, jv_up_n (by omega)]
theorem u_becomeRight {s p c : Int} {Q : jv_Mem → Prop} {g : jv_Mem} (n0 : 0 ≤ g 21 4) (n1 : g 21 4 < 1200) (s0 : 0 ≤ s) (s1 : s < 6) (p0 : 0 ≤ p) (p1 : p < 20) (c0 : 0 ≤ c) (c1 : c < 9) (h0 : 0 ≤ g 0 11) (h1 : g 0 11 ≤ 30000) (m0 : 0 ≤ g (30 + 3 * p) 4) (m1 : g (30 + 3 * p) 4 < 512) (a0 : 0 ≤ g (30 + 3 * p) 2) (a1 : g (30 + 3 * p) 2 ≤ 30000) (o0 : -12 ≤ g (90 + 6 * s + 1) 2) (o1 : g (90 + 6 * s + 1) 2 ≤ 14) (hr : ∀ x, 0 ≤ x → x < 9 → -1 ≤ g (90 + 6 * s + 1 + 1) (p * 9 + x) ∧ g (90 + 6 * s + 1 + 1) (p * 9 + x) ≤ 30001)
    (hQ : ∀ g' : jv_Mem, (∀ i k, i ≠ 22 → i ≠ 23 → i ≠ 24 → i ≠ 25 → ¬ (i = 21 ∧ k = 4) → i ≠ 90 + 6 * s + 1 + 1 → i ≠ 90 + 6 * s + 1 + 2 → g' i k = g i k) → g' 21 4 = g 21 4 + 1 → (∀ k, g' 22 k = if k = g 21 4 then s else g 22 k) → (∀ k, g' 23 k = if k = g 21 4 then p else g 23 k) → (∀ k, g' 24 k = if k = g 21 4 then c else g 24 k) → (∀ k, g' 25 k = if k = g 21 4 then g 0 11 else g 25 k) → (∀ k, g' (90 + 6 * s + 1 + 1) k = if k = p * 9 + c then g 0 11 else g (90 + 6 * s + 1 + 1) k) → (∀ d, g' (90 + 6 * s + 1 + 2) d = iv_sc (iv_sl (g' (90 + 6 * s + 1 + 1)) p (g (30 + 3 * p) 4) (g (30 + 3 * p) 2)) (g (90 + 6 * s + 1) 2) d (g (90 + 6 * s + 1 + 2) d)) → Q g') : wp_X8_becomeRight s p c Q g := by
  unfold wp_X8_becomeRight
  refine u_X1add n0 n1 (fun ga b1 b2 b3 b4 b5 b6 => ⟨⟨s0, s1⟩, ?_⟩)
  unfold wp_X2_setRight
  refine ⟨by omega, ?_⟩
  rintro gb eb
  have q11 : ga 0 11 = g 0 11 := b1 0 11 (by omega) (by omega) (by omega) (by omega) (by omega)
  rw [q11] at eb
  have fb : ∀ i k, i ≠ 22 → i ≠ 23 → i ≠ 24 → i ≠ 25 → ¬ (i = 21 ∧ k = 4) → i ≠ 90 + 6 * s + 1 + 1 → gb i k = g i k := fun i k x1 x2 x3 x4 x5 x6 => by rw [eb, jv_up_n (fun hh => x6 hh.1)]; exact b1 i k x1 x2 x3 x4 x5
  have fr : ∀ k, gb (90 + 6 * s + 1 + 1) k = if k = p * 9 + c then g 0 11 else g (90 + 6 * s + 1 + 1) k := fun k => by
    rw [eb]
    by_cases e : k = p * 9 + c
    · rw [jv_up_e rfl e, if_pos e]
    · rw [jv_up_n (fun hh => e hh.2), if_neg e]; exact b1 _ k (by omega) (by omega) (by omega) (by omega) (by omega)
  have q4 : gb (30 + 3 * p) 4 = g (30 + 3 * p) 4 := fb _ _ (by omega) (by omega) (by omega) (by omega) (by omega) (by omega)
  have q2 : gb (30 + 3 * p) 2 = g (30 + 3 * p) 2 := fb _ _ (by omega) (by omega) (by omega) (by omega) (by omega) (by omega)
  have qo : gb (90 + 6 * s + 1) 2 = g (90 + 6 * s + 1) 2 := fb _ _ (by omega) (by omega) (by omega) (by omega) (by omega) (by omega)
  unfold wp_X8_countIfSolved wp_X3_openCells wp_X3_hourOfAppearing
  dsimp only
  rw [q4, q2]
  refine ⟨⟨p0, p1⟩, ⟨s0, s1⟩, ?_⟩
  refine u_countX2 p0 p1 m0 m1 (fun x x0 x1 => ?_) (by omega) (by omega) (by omega) (fun g' t1 t2 => ?_)
  · rw [fr]
    have := hr x x0 x1
    split <;> omega
  · have e1 : g' (90 + 6 * s + 1 + 1) = gb (90 + 6 * s + 1 + 1) := funext fun k => t1 _ k (by omega)
    have ev : ∀ i, 21 ≤ i → i ≤ 25 → ∀ k, g' i k = ga i k := fun i i0 i1 k => by rw [t1 i k (by omega), eb, jv_up_n (by omega)]
    refine hQ g' (fun i k x1 x2 x3 x4 x5 x6 x7 => by rw [t1 i k x7]; exact fb i k x1 x2 x3 x4 x5 x6) (by rw [ev 21 (by omega) (by omega)]; exact b2) (fun k => by rw [ev 22 (by omega) (by omega)]; exact b3 k) (fun k => by rw [ev 23 (by omega) (by omega)]; exact b4 k) (fun k => by rw [ev 24 (by omega) (by omega)]; exact b5 k) (fun k => by rw [ev 25 (by omega) (by omega)]; exact b6 k) (fun k => by rw [e1]; exact fr k) (fun d => ?_)
    rw [e1, t2 d, qo]
    congr 1
    exact fb _ d (by omega) (by omega) (by omega) (by omega) (by omega) (by omega)
/-- the solvers and the events after a cell became right -/
theorem step_right {x4 x4' s p c : Int} {g g' : jv_Mem} (h5 : iJ5 g) (h6 : iJ6 g) (h7 : iJ7 x4 g) (h8 : iJ8 x4 g) (hx : x4 + 5 ≤ x4') (s0 : 0 ≤ s) (s1 : s < g 0 10) (p0 : 0 ≤ p) (p1 : p < g 0 9) (c0 : 0 ≤ c) (c1 : c < 9)
    (F0 : ∀ k, g' 0 k = g 0 k) (F1 : g' 126 22 = g 126 22) (F2 : ∀ i k, 30 ≤ i → i < 90 → g' i k = g i k) (F3 : ∀ i k, i = 137 ∨ i = 140 ∨ i = 142 → g' i k = g i k)
    (F4 : ∀ s' k, 0 ≤ s' → s' < 6 → g' (90 + 6 * s' + 1) k = g (90 + 6 * s' + 1) k) (F5 : ∀ s' k, 0 ≤ s' → s' < 6 → s' ≠ s → g' (90 + 6 * s' + 1 + 1) k = g (90 + 6 * s' + 1 + 1) k ∧ g' (90 + 6 * s' + 1 + 2) k = g (90 + 6 * s' + 1 + 2) k)
    (E0 : g' 21 4 = g 21 4 + 1) (E1 : ∀ k, g' 22 k = if k = g 21 4 then s else g 22 k) (E2 : ∀ k, g' 23 k = if k = g 21 4 then p else g 23 k) (E3 : ∀ k, g' 24 k = if k = g 21 4 then c else g 24 k) (E4 : ∀ k, g' 25 k = if k = g 21 4 then g 0 11 else g 25 k)
    (R0 : ∀ k, g' (90 + 6 * s + 1 + 1) k = if k = p * 9 + c then g 0 11 else g (90 + 6 * s + 1 + 1) k)
    (D0 : ∀ d, g' (90 + 6 * s + 1 + 2) d = iv_sc (iv_sl (g' (90 + 6 * s + 1 + 1)) p (g (30 + 3 * p) 4) (g (30 + 3 * p) 2)) (g (90 + 6 * s + 1) 2) d (g (90 + 6 * s + 1 + 2) d))
    (R1 : ∀ k, g' 144 k = if k = ((180 * s) + (9 * p)) + c then g 0 11 + 1 else g 144 k)
    (D1 : ∀ k, g' 147 k = if ¬ iv_sl (g' (90 + 6 * s + 1 + 1)) p (g (30 + 3 * p) 4) (g (30 + 3 * p) 2) = -1 ∧ k = (1260 * s) + iv_day (g 142 s) (iv_sl (g' (90 + 6 * s + 1 + 1)) p (g (30 + 3 * p) 4) (g (30 + 3 * p) 2)) then 1 else g 147 k)
    (H1 : ∀ s', 0 ≤ s' → s' < g 0 10 → g' (90 + 6 * s') 3 = g' 143 s' ∧ 0 ≤ g' 143 s' ∧ g' 143 s' ≤ 1000 + 72 * x4')
    (H2 : ∀ s' q, 0 ≤ s' → s' < 6 → 0 ≤ q → q < 20 → g' (90 + 6 * s' + 5) q = g' 146 ((20 * s') + q) ∧ 0 ≤ g' 146 ((20 * s') + q) ∧ 5 * g' 146 ((20 * s') + q) ≤ x4')
    (H3 : ∀ s' q x, 0 ≤ s' → s' < 6 → 0 ≤ q → q < 20 → 0 ≤ x → x < 9 → 0 ≤ g' (90 + 6 * s' + 4) ((q * 9) + x) ∧ g' (90 + 6 * s' + 4) ((q * 9) + x) ≤ 40 ∧ g' 145 (((180 * s') + (9 * q)) + x) = (if iv_bit (g (30 + 3 * q) 4) x = 0 then g' (90 + 6 * s' + 4) ((q * 9) + x) else 0) ∧ (g 0 10 ≤ s' → g' (90 + 6 * s' + 4) ((q * 9) + x) = 0)) : iJ7 x4' g' ∧ iJ8 x4' g' := by
  have hs := ex_s h7 s0 s1
  obtain ⟨k1, k2, k3, k4, k5, k6, k7, k8, k9⟩ := hs
  have hp := ex_p h6 p0 p1
  have h52 := h5.2.1
  have h53 := h5.2.2
  have hrr : ∀ x, 0 ≤ x → x < 9 → -1 ≤ g' (90 + 6 * s + 1 + 1) (p * 9 + x) ∧ g' (90 + 6 * s + 1 + 1) (p * 9 + x) ≤ 30001 := fun x x0 x1 => by
    rw [R0]
    have := (k9 p x p0 hp.1 x0 x1).2
    split <;> omega
  have hv := @iv_sl_r (g' (90 + 6 * s + 1 + 1)) p (g (30 + 3 * p) 4) (g (30 + 3 * p) 2) hrr (by omega)
  obtain ⟨n1, n2, n3, a1, a2⟩ := id h7
  obtain ⟨y1, y2, y3, y4, y5, y6⟩ := id h8
  constructor
  · generalize iv_sl (g' (90 + 6 * s + 1 + 1)) p (g (30 + 3 * p) 4) (g (30 + 3 * p) 2) = v at *
    refine ⟨by rw [F0, F1]; exact n1, by rw [F0]; exact n2, by rw [F0]; exact n3, fun s' q0 q1 => ?_, fun s' q0 q1 => ?_⟩
    · rw [F0] at q1
      obtain ⟨b1, b2, b3, b4, b5, b6, b7, b8⟩ := a1 s' q0 q1
      obtain ⟨i1, i2, i3⟩ := H1 s' q0 q1
      refine ⟨i1, i2, i3, by rw [F4 s' 2 q0 (by omega), F3 142 s' (by omega)]; exact b4, by rw [F3 142 s' (by omega)]; exact b5, by rw [F3 142 s' (by omega)]; exact b6, fun q x w0 w1 w2 w3 => ?_, fun d d0 d1 => ?_⟩
      · rw [R1]
        by_cases e : s' = s
        · subst e
          rw [R0]
          by_cases e2 : q * 9 + x = p * 9 + c
          · rw [if_pos e2, if_pos (by omega)]; omega
          · rw [if_neg e2, if_neg (by omega)]; exact b7 q x w0 w1 w2 w3
        · rw [(F5 s' _ q0 (by omega) e).1, if_neg (by omega)]; exact b7 q x w0 w1 w2 w3
      · rw [D1]
        by_cases e : s' = s
        · subst e
          rw [D0]
          unfold iv_sc
          by_cases e2 : v = -1
          · rw [if_pos e2, if_neg (fun hh => hh.1 e2)]; exact b8 d d0 d1
          · rw [if_neg e2, k5]
            by_cases e3 : d = iv_day (g 142 s') v
            · rw [if_pos e3, if_pos ⟨e2, by omega⟩]
            · rw [if_neg e3, if_neg (fun hh => e3 (by omega))]; exact b8 d d0 d1
        · have hd : v = -1 ∨ (0 ≤ iv_day (g 142 s) v ∧ iv_day (g 142 s) v < 1252) := by
            by_cases e2 : v = -1
            · exact Or.inl e2
            · exact Or.inr (iv_day_r (by omega) (by omega) (by omega) (by omega))
          rw [(F5 s' _ q0 (by omega) e).2, if_neg (fun hh => by omega)]; exact b8 d d0 d1
    · obtain ⟨b1, b2, b3, b4⟩ := a2 s' q0 q1
      rw [F0]
      refine ⟨fun q x w0 w1 w2 w3 => ?_, fun d d0 d1 => ?_, fun q w0 w1 => H2 s' q q0 q1 w0 w1, fun q x w0 w1 w2 w3 => ?_⟩
      · rw [R1]
        have := b1 q x w0 w1 w2 w3
        by_cases e : ((180 * s') + (9 * q)) + x = ((180 * s) + (9 * p)) + c
        · rw [if_pos e]
          have e3 : s' = s := by omega
          exact ⟨by omega, by omega, fun hh => by omega⟩
        · rw [if_neg e]; exact this
      · rw [D1]
        have hb := b2 d d0 d1
        have hd : v = -1 ∨ (0 ≤ iv_day (g 142 s) v ∧ iv_day (g 142 s) v < 1252) := by
          by_cases e2 : v = -1
          · exact Or.inl e2
          · exact Or.inr (iv_day_r (by omega) (by omega) (by omega) (by omega))
        by_cases e : ¬ v = -1 ∧ (1260 * s') + d = (1260 * s) + iv_day (g 142 s) v
        · rw [if_pos e]
          have e3 : s' = s := by omega
          exact ⟨Or.inr rfl, fun hh => by omega⟩
        · rw [if_neg e]; exact hb
      · rw [F2 (30 + 3 * q) 4 (by omega) (by omega)]; exact H3 s' q x q0 q1 w0 w1 w2 w3
  · have en : (((g 21 4).toNat : Nat) : Int) = g 21 4 := by omega
    have en1 : (g 21 4 + 1).toNat = (g 21 4).toNat + 1 := by omega
    have row : ∀ e, 0 ≤ e → e < ((g 21 4).toNat : Int) → g' 22 e = g 22 e ∧ g' 23 e = g 23 e ∧ g' 24 e = g 24 e ∧ g' 25 e = g 25 e := fun e e0 e1 => by
      rw [E1, E2, E3, E4, if_neg (by omega), if_neg (by omega), if_neg (by omega), if_neg (by omega)]; exact ⟨rfl, rfl, rfl, rfl⟩
    have r137 : g' 137 = g 137 := funext fun k => F3 137 k (by omega)
    have cro : iv_ro (g' 22) (g' 23) (g' 24) (g 21 4).toNat = iv_ro (g 22) (g 23) (g 24) (g 21 4).toNat := iv_ro_congr (fun e e0 e1 => ⟨(row e e0 e1).1, (row e e0 e1).2.1, (row e e0 e1).2.2.1⟩)
    have crr : ∀ s', iv_rr (g' 22) (g' 23) (g' 24) (g' 25) s' (g 21 4).toNat = iv_rr (g 22) (g 23) (g 24) (g 25) s' (g 21 4).toNat := fun s' => iv_rr_congr (fun e e0 e1 => row e e0 e1)
    have crc : ∀ s' o, iv_rc (g' 22) (g' 23) (g' 24) (g' 25) (g' 137) s' o (g 21 4).toNat = iv_rc (g 22) (g 23) (g 24) (g 25) (g 137) s' o (g 21 4).toNat := fun s' o => iv_rc_congr (fun e e0 e1 => ⟨(row e e0 e1).1, (row e e0 e1).2.1, (row e e0 e1).2.2.1, (row e e0 e1).2.2.2, by rw [r137]⟩)
    have w22 : g' 22 (g 21 4) = s := by rw [E1, if_pos rfl]
    have w23 : g' 23 (g 21 4) = p := by rw [E2, if_pos rfl]
    have w24 : g' 24 (g 21 4) = c := by rw [E3, if_pos rfl]
    have w25 : g' 25 (g 21 4) = g 0 11 := by rw [E4, if_pos rfl]
    have nro : ∀ q, iv_ro (g' 22) (g' 23) (g' 24) ((g 21 4).toNat + 1) q = iv_ro (g 22) (g 23) (g 24) (g 21 4).toNat q := fun q => by
      simp only [iv_ro]; rw [en, w22, if_neg (by omega), cro]
    have nrr : ∀ s' k, iv_rr (g' 22) (g' 23) (g' 24) (g' 25) s' ((g 21 4).toNat + 1) k = if s = s' ∧ k = p * 9 + c then g 0 11 else iv_rr (g 22) (g 23) (g 24) (g 25) s' (g 21 4).toNat k := fun s' k => by
      simp only [iv_rr]; rw [en, w22, w23, w24, w25, crr]
    unfold iJ8
    rw [E0, F0, F0, en1]
    refine ⟨by omega, y2, by omega, fun e e0 e1 => ?_, fun q q0 q1 => ?_, fun s' q0 q1 => ⟨fun k k0 k1' => ?_, fun d d0 d1 => ?_⟩⟩
    · by_cases ee : e = g 21 4
      · rw [ee, w22, w23, w24, w25]; omega
      · obtain ⟨r1, r2, r3, r4⟩ := row e e0 (by omega)
        rw [r1, r2, r3, r4]; exact y4 e e0 (by omega)
    · rw [nro, F2 _ _ (by omega) (by omega)]; exact y5 q q0 q1
    · rw [nrr]
      by_cases e : s' = s
      · subst e
        rw [R0]
        by_cases e2 : k = p * 9 + c
        · rw [if_pos ⟨rfl, e2⟩, if_pos e2]
        · rw [if_neg (fun hh => e2 hh.2), if_neg e2]; exact (y6 s' q0 q1).1 k k0 k1'
      · rw [if_neg (fun hh => e hh.1.symm), (F5 s' _ q0 (by omega) e).1]; exact (y6 s' q0 q1).1 k k0 k1'
    · rw [F3 142 s' (by omega)]
      by_cases e : s' = s
      · subst e
        rw [D0]
        have hsl : iv_sl (iv_rr (g' 22) (g' 23) (g' 24) (g' 25) s' ((g 21 4).toNat + 1)) p (iv_ro (g' 22) (g' 23) (g' 24) ((g 21 4).toNat + 1) p) (g' 137 p) = iv_sl (g' (90 + 6 * s' + 1 + 1)) p (g (30 + 3 * p) 4) (g (30 + 3 * p) 2) := by
          rw [nro, y5 p p0 hp.1, r137, ← hp.2.1]
          refine iv_sl_congr (fun x x0 x1 => ?_)
          rw [nrr, R0]
          by_cases e2 : p * 9 + x = p * 9 + c
          · rw [if_pos ⟨rfl, e2⟩, if_pos e2]
          · rw [if_neg (fun hh => e2 hh.2), if_neg e2]; exact (y6 s' q0 q1).1 _ (by omega) (by omega)
        have e0 : iv_rc (g' 22) (g' 23) (g' 24) (g' 25) (g' 137) s' (g 142 s') ((g 21 4).toNat + 1) d = iv_sc (iv_sl (iv_rr (g' 22) (g' 23) (g' 24) (g' 25) s' ((g 21 4).toNat + 1)) (g' 23 (((g 21 4).toNat : Nat) : Int)) (iv_ro (g' 22) (g' 23) (g' 24) ((g 21 4).toNat + 1) (g' 23 (((g 21 4).toNat : Nat) : Int))) (g' 137 (g' 23 (((g 21 4).toNat : Nat) : Int)))) (g 142 s') d (iv_rc (g' 22) (g' 23) (g' 24) (g' 25) (g' 137) s' (g 142 s') (g 21 4).toNat d) := by
          show (if _ then _ else _) = _
          rw [if_pos (by rw [en, w22]; exact Or.inr rfl)]
        rw [e0, en, w23, hsl, crc, (y6 s' q0 q1).2 d d0 d1, k5]
      · rw [(F5 s' _ q0 (by omega) e).2]
        have e0 : iv_rc (g' 22) (g' 23) (g' 24) (g' 25) (g' 137) s' (g 142 s') ((g 21 4).toNat + 1) d = iv_rc (g' 22) (g' 23) (g' 24) (g' 25) (g' 137) s' (g 142 s') (g 21 4).toNat d := by
          show (if _ then _ else _) = _
          rw [if_neg (by rw [en, w22]; omega)]
        rw [e0, crc]; exact (y6 s' q0 q1).2 d d0 d1

