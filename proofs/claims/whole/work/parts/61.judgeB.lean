def iv_JM (g : jv_Mem) (p m w x : Int) (gl : jv_Mem) : Prop :=
  (∀ s, 0 ≤ s → s < 6 → gl 143 s = if s < x then g 143 s + iv_pb (g (90 + 6 * s + 4)) w p 9 else g 143 s) ∧
  (∀ s q c, 0 ≤ s → s < 6 → 0 ≤ q → q < 20 → 0 ≤ c → c < 9 → gl 145 (((180 * s) + (9 * q)) + c) = if s < x ∧ q = p ∧ iv_bit m c = 1 then 0 else g 145 (((180 * s) + (9 * q)) + c)) ∧
  (∀ s d, 0 ≤ s → s < 6 → 0 ≤ d → d < 1252 → gl 147 ((1260 * s) + d) = if s < x then iv_jc g p m s d else g 147 ((1260 * s) + d))
theorem u_judgeM {x4 p e : Int} {Q : Int → jv_Mem → Prop} {g gs : jv_Mem} (h5 : iJ5 g) (h6 : iJ6 g) (h7 : iJ7 x4 g) (hx : x4 ≤ 2560) (rp : jv_r p) (re : jv_r e) (hgs : ∀ i k, 126 ≤ i → i ≤ 147 → gs i k = g i k)
    (hY : (0 ≤ p ∧ p < g 0 9) → (0 ≤ e ∧ e < 6) → iv_bit (g 140 p) e = 0 → ∀ g' : jv_Mem, g' 126 29 = 0 → (∀ i k, i ≠ 143 → i ≠ 145 → i ≠ 147 → ¬ (i = 126 ∧ k = 29) → ¬ (i = 140 ∧ k = p) → g' i k = gs i k) → g' 140 p = jv_or (g 140 p) (jv_shl 1 e) → iv_JM g p (jv_or (iv_op (g 140 p)) (iv_ce e)) (jv_and (iv_ce e) (jv_xor (iv_op (g 140 p)) (-1))) (g 0 10) g' → Q (iv_jl g p (jv_or (iv_op (g 140 p)) (iv_ce e)) (g 0 10).toNat) g')
    (h1 : ¬ ((0 ≤ p ∧ p < g 0 9) ∧ (0 ≤ e ∧ e < 6)) → Q 0 (jv_up gs 126 29 1)) (h2 : (0 ≤ p ∧ p < g 0 9) → (0 ≤ e ∧ e < 6) → iv_bit (g 140 p) e = 1 → Q 0 (jv_up gs 126 29 2)) : wp_X9_judge p e Q gs := by
  obtain ⟨n1, n2, n3, n4, n5⟩ := id h7
  obtain ⟨m1, m2, m3, m4, m5⟩ := id h6
  have h52 := h5.2.1
  have h53 := h5.2.2
  have h51 := h5.1
  have z16 : gs 126 16 = g 0 9 := by rw [hgs 126 16 (by omega) (by omega)]; exact m1
  have bad : ∀ v : Int, 0 < v ∧ v ≤ 2 → Q 0 (jv_up gs 126 29 v) → wB_X9_judge_41 p e Q v gs := by
    intro v hv hq
    rintro g1 rfl
    have e : jv_up gs 126 29 v 126 29 = v := jv_up_e rfl rfl
    rw [e]
    exact ⟨(by unfold jv_r; omega), fun h9 => by omega, fun _ => hq⟩
  unfold wp_X9_judge
  refine u_isPuzzle rp (by rw [z16]; omega) (fun hp => ⟨(by unfold jv_r; omega), fun h9 => by omega, fun _ => ?_⟩) (fun hp => ⟨(by unfold jv_r; omega), fun _ => bad 1 (by omega) (h1 (fun h => hp (by rw [z16]; exact h.1))), fun h9 => absurd rfl h9⟩)
  rw [z16] at hp
  refine u_in re (by unfold jv_r; omega) (by unfold jv_r; omega) (fun he => ⟨(by unfold jv_r; omega), fun _ => ?_, fun h9 => by omega⟩) (fun he => ⟨(by unfold jv_r; omega), fun h9 => absurd rfl h9, fun _ => bad 1 (by omega) (h1 (fun h => he (by omega)))⟩)
  have he : 0 ≤ e ∧ e < 6 := by omega
  obtain ⟨l1, l2, l3, l4, l5, l6, l7, l8, l9⟩ := ex_p h6 hp.1 hp.2
  have hb01 := ib_j l6 l7 he.1 he.2
  have hst := ib_st l6 l7 he.1 he.2
  have hopr := ib_op hst.2.1 hst.2.2
  rw [← hst.1] at hopr
  have hY := hY hp he
  have hbits : ∀ c, 0 ≤ c → c < 9 → iv_bit (jv_or (iv_op (g 140 p)) (iv_ce e)) c = (if iv_bit (iv_op (g 140 p)) c = 0 then iv_bit (iv_ce e) c else 1) ∧ iv_bit (jv_and (iv_ce e) (jv_xor (iv_op (g 140 p)) (-1))) c = (if iv_bit (iv_op (g 140 p)) c = 0 then iv_bit (iv_ce e) c else 0) := fun c c0 c1 => ib_bits l6 l7 he.1 he.2 c0 c1
  generalize hm : jv_or (iv_op (g 140 p)) (iv_ce e) = m at *
  generalize hw : jv_and (iv_ce e) (jv_xor (iv_op (g 140 p)) (-1)) = w at *
  have z140 : gs 140 p = g 140 p := hgs 140 p (by omega) (by omega)
  rw [z140]
  refine ⟨⟨hp.1, l1⟩, ir_and, fun hb => ?_, fun hb => bad 2 (by omega) (h2 hp he (by rw [bit_eq] at hb; exact hb))⟩
  rw [bit_eq] at hb
  have hY := hY (by omega)
  rintro g1 e1
  have q29 : g1 126 29 = 0 := by rw [e1, jv_up_e rfl rfl]
  have q140 : g1 140 p = g 140 p := by rw [e1, jv_up_n (by omega)]; exact z140
  rw [q29, q140]
  refine ⟨(by unfold jv_r; omega), fun _ => ⟨⟨hp.1, l1⟩, ⟨hp.1, l1⟩, ?_⟩, fun h9 => by omega⟩
  rintro g2 e2
  have r140 : g2 140 p = jv_or (g 140 p) (jv_shl 1 e) := by rw [e2, jv_up_e rfl rfl]
  have r29 : g2 126 29 = 0 := by rw [e2, jv_up_n (by omega)]; exact q29
  have rr : ∀ i k, ¬ (i = 126 ∧ k = 29) → ¬ (i = 140 ∧ k = p) → g2 i k = gs i k := fun i k z0 z1 => by rw [e2, jv_up_n z1, e1, jv_up_n z0]
  have rg : ∀ i k, 126 ≤ i → i ≤ 147 → ¬ (i = 126 ∧ k = 29) → i ≠ 140 → g2 i k = g i k := fun i k i0 i1 z0 z1 => by rw [rr i k z0 (by omega)]; exact hgs i k i0 i1
  clear e1 e2 q29 q140
  refine u_openOf hp.1 l1 ?_
  rw [r140, ← hst.1]
  refine ⟨fun n x4' x5 gl => 0 ≤ x5 ∧ x5 ≤ g 0 10 ∧ (∀ i k, i ≠ 143 → i ≠ 145 → i ≠ 147 → gl i k = g2 i k) ∧ iv_JM g p m w x5 gl ∧ x4' = iv_jl g p m x5.toNat ∧ n = (g 0 10 - x5).toNat, ⟨_, by omega, n2, fun _ _ _ _ _ => rfl, ⟨fun s s0 s1 => by rw [if_neg (by omega)]; exact rg 143 s (by omega) (by omega) (by omega) (by omega), fun s q c s0 s1 q0 q1 c0 c1 => by rw [if_neg (fun hh => by omega)]; exact rg 145 _ (by omega) (by omega) (by omega) (by omega), fun s d s0 s1 d0 d1 => by rw [if_neg (by omega)]; exact rg 147 _ (by omega) (by omega) (by omega) (by omega)⟩, rfl, rfl⟩, ?_⟩
  rintro n x4' x5 gl ⟨c0, c1, c2, c3, c4, c5⟩
  obtain ⟨d1, d2, d3⟩ := id c3
  have q22 : gl 126 22 = g 0 10 := by rw [c2 126 22 (by omega) (by omega) (by omega), rg 126 22 (by omega) (by omega) (by omega) (by omega)]; exact n1
  rw [q22]
  refine ⟨⟨(by unfold jv_r; omega), (by unfold jv_r; omega)⟩, fun h => ?_, fun h => ?_⟩
  · have ex : x5 = g 0 10 := by omega
    rw [ex] at c3 c4
    rw [c4]
    exact hY gl (by rw [c2 126 29 (by omega) (by omega) (by omega)]; exact r29) (fun i k z0 z1 z2 z3 z4 => by rw [c2 i k z0 z1 z2]; exact rr i k z3 z4) (by rw [c2 140 p (by omega) (by omega) (by omega)]; exact r140) c3
  · obtain ⟨k1, k2, k3, k4, k5, k6, k7, k8, k9⟩ := ex_s h7 c0 h
    obtain ⟨w1, w2, w3, w4, w5, w6, w7⟩ := ex_j h5 h6 h7 (m := m) c0 h hp.1 hp.2
    have paid := (n5 x5 c0 k1).2.2.2
    have g142 : gl 142 x5 = g 142 x5 := by rw [c2 142 x5 (by omega) (by omega) (by omega)]; exact rg 142 x5 (by omega) (by omega) (by omega) (by omega)
    have g15 : gl 126 15 = g 0 11 := by rw [c2 126 15 (by omega) (by omega) (by omega), rg 126 15 (by omega) (by omega) (by omega) (by omega)]; exact h51
    refine u_streakOf (f := g (90 + 6 * x5 + 1 + 2)) c0 k1 (by omega) (by omega) (by omega) (by omega) (fun k z0 z1 => ?_) ?_
    · have := k8 k z0 z1
      rw [d3 x5 k c0 k1 z0 z1, if_neg (by omega)]; exact this
    · rw [g142, g15]
      refine ⟨fun n7 x7 gn => 0 ≤ x7 ∧ x7 ≤ 9 ∧ (∀ i k, i ≠ 143 → i ≠ 145 → gn i k = gl i k) ∧ (∀ s, 0 ≤ s → s < 6 → gn 143 s = if s = x5 then g 143 s + iv_pb (g (90 + 6 * s + 4)) w p x7.toNat else gl 143 s) ∧ (∀ s q c, 0 ≤ s → s < 6 → 0 ≤ q → q < 20 → 0 ≤ c → c < 9 → gn 145 (((180 * s) + (9 * q)) + c) = if s = x5 ∧ q = p ∧ c < x7 ∧ iv_bit m c = 1 then 0 else gl 145 (((180 * s) + (9 * q)) + c)) ∧ n7 = (9 - x7).toNat, ⟨_, by omega, by omega, fun _ _ _ _ => rfl, fun s s0 s1 => ?_, fun s q c s0 s1 q0 q1 z0 z1 => by rw [if_neg (fun hh => by omega)], rfl⟩, ?_⟩
      · by_cases es : s = x5
        · rw [if_pos es, es, d1 x5 c0 k1, if_neg (by omega)]; simp [iv_pb]
        · rw [if_neg es]
      · rintro n7 x7 gn ⟨f0, f1', f2', f3', f4', f5'⟩
        have e6 : ((x7.toNat : Nat) : Int) = x7 := by omega
        refine ⟨(by unfold jv_r; omega), fun h7' => ?_, fun h7' => ?_⟩
        · have ex7 : x7 = 9 := by omega
          rw [ex7] at f3' f4'
          have v140 : gn 140 p = jv_or (g 140 p) (jv_shl 1 e) := by rw [f2' 140 p (by omega) (by omega), c2 140 p (by omega) (by omega) (by omega)]; exact r140
          have v142 : gn 142 x5 = g 142 x5 := by rw [f2' 142 x5 (by omega) (by omega)]; exact g142
          have v137 : gn 137 p = g 137 p := by rw [f2' 137 p (by omega) (by omega), c2 137 p (by omega) (by omega) (by omega)]; exact rg 137 p (by omega) (by omega) (by omega) (by omega)
          have v144 : ∀ k, gn 144 k = g 144 k := fun k => by rw [f2' 144 k (by omega) (by omega), c2 144 k (by omega) (by omega) (by omega)]; exact rg 144 k (by omega) (by omega) (by omega) (by omega)
          refine u_countsM (R := g (90 + 6 * x5 + 1 + 1)) c0 k1 hp.1 l1 (by rw [v140]; exact hst.2.1) (by rw [v140]; exact hst.2.2) (by rw [v142]; exact k6) (by rw [v142]; exact k7) (fun x x0 x1 => by rw [v144]; exact (k9 p x hp.1 l1 x0 x1).1) (fun x x0 x1 => (k9 p x hp.1 l1 x0 x1).2) (by rw [v137]; omega) (fun go t1 t2 => ?_)
          rw [v140, ← hst.1, v137, v142] at t2
          have t2' : ∀ s d, 0 ≤ s → s < 6 → 0 ≤ d → d < 1252 → go 147 ((1260 * s) + d) = if s = x5 then iv_jc g p m s d else gl 147 ((1260 * s) + d) := fun s d s0 s1 z0 z1 => by
            have hvv : iv_sl (g (90 + 6 * x5 + 1 + 1)) p m (g 137 p) = iv_jv g p m x5 := rfl
            rw [t2, hvv, f2' 147 _ (by omega) (by omega)]
            by_cases es : s = x5
            · rw [if_pos es, es]
              unfold iv_jc iv_sc
              by_cases ev : iv_jv g p m x5 = -1
              · rw [if_pos ev, if_neg (fun hh => hh.1 ev), d3 x5 d c0 k1 z0 z1, if_neg (by omega)]; exact (k8 d z0 z1).1.symm
              · rw [if_neg ev]
                by_cases ed : d = iv_day (g 142 x5) (iv_jv g p m x5)
                · rw [if_pos ed, if_pos ⟨ev, by omega⟩]
                · rw [if_neg ed, if_neg (fun hh => ed (by omega)), d3 x5 d c0 k1 z0 z1, if_neg (by omega)]; exact (k8 d z0 z1).1.symm
            · rw [if_neg es]
              have hd : iv_jv g p m x5 = -1 ∨ (0 ≤ iv_day (g 142 x5) (iv_jv g p m x5) ∧ iv_day (g 142 x5) (iv_jv g p m x5) < 1252) := by
                by_cases e2 : iv_jv g p m x5 = -1
                · exact Or.inl e2
                · exact Or.inr (iv_day_r (by omega) (by omega) (by omega) (by omega))
              rw [if_neg (fun hh => by omega)]
          have u142 : go 142 x5 = g 142 x5 := by rw [t1 142 (by omega)]; exact v142
          have u15 : go 126 15 = g 0 11 := by rw [t1 126 (by omega), f2' 126 15 (by omega) (by omega)]; exact g15
          refine u_streakOf (f := iv_jc g p m x5) c0 k1 (by omega) (by omega) (by omega) (by omega) (fun k z0 z1 => ⟨by rw [t2' x5 k c0 k1 z0 z1, if_pos rfl], w5 k z0 z1⟩) ?_
          rw [u142, u15]
          have JM' : iv_JM g p m w (x5 + 1) go := by
            refine ⟨fun s s0 s1 => ?_, fun s q c s0 s1 q0 q1 z0 z1 => ?_, fun s d s0 s1 z0 z1 => ?_⟩
            · rw [t1 143 (by omega), f3' s s0 s1]
              by_cases es : s = x5
              · rw [if_pos es, if_pos (by omega)]; rfl
              · rw [if_neg es, d1 s s0 s1]
                by_cases el : s < x5
                · rw [if_pos el, if_pos (by omega)]
                · rw [if_neg el, if_neg (by omega)]
            · rw [t1 145 (by omega), f4' s q c s0 s1 q0 q1 z0 z1, d2 s q c s0 s1 q0 q1 z0 z1]
              by_cases hh : s = x5 ∧ q = p ∧ c < 9 ∧ iv_bit m c = 1
              · rw [if_pos hh, if_pos ⟨by omega, hh.2.1, hh.2.2.2⟩]
              · rw [if_neg hh]
                by_cases h3 : s < x5 ∧ q = p ∧ iv_bit m c = 1
                · rw [if_pos h3, if_pos ⟨by omega, h3.2⟩]
                · rw [if_neg h3, if_neg (fun h4 => by
                    by_cases es : s = x5
                    · exact hh ⟨es, h4.2.1, z1, h4.2.2⟩
                    · exact h3 ⟨by omega, h4.2⟩)]
            · rw [t2' s d s0 s1 z0 z1]
              by_cases es : s = x5
              · rw [if_pos es, if_pos (by omega)]
              · rw [if_neg es, d3 s d s0 s1 z0 z1]
                by_cases el : s < x5
                · rw [if_pos el, if_pos (by omega)]
                · rw [if_neg el, if_neg (by omega)]
          have step : ∀ y : Int, y = (if iv_stk (g (90 + 6 * x5 + 1 + 2)) (iv_day (g 142 x5) (g 0 11)) < iv_stk (iv_jc g p m x5) (iv_day (g 142 x5) (g 0 11)) then 1 else 0) → wB_X9_judge_186 (fun x1' x2' g' => ∃ n', n' < n ∧ 0 ≤ x2' ∧ x2' ≤ g 0 10 ∧ (∀ i k, i ≠ 143 → i ≠ 145 → i ≠ 147 → g' i k = g2 i k) ∧ iv_JM g p m w x2' g' ∧ x1' = iv_jl g p m x2'.toNat ∧ n' = (g 0 10 - x2').toNat) x4' x5 y go := by
            intro y ey v ev v5 ev5
            refine ⟨(g 0 10 - v5).toNat, by omega, by omega, by omega, fun i k z0 z1 z2 => by rw [t1 i z2, f2' i k z0 z1]; exact c2 i k z0 z1 z2, by rw [ev5]; exact JM', ?_, rfl⟩
            have e5 : v5.toNat = x5.toNat + 1 := by omega
            have e6' : ((x5.toNat : Nat) : Int) = x5 := by omega
            rw [e5, ev, c4, ey]; simp only [iv_jl]; rw [e6']
          exact ⟨⟨w7, w6⟩, fun hle => step 0 (by rw [if_neg (by omega)]), fun hgt => step 1 (by rw [if_pos hgt])⟩
        · rintro v8 ev8
          have hbb := hbits x7 f0 h7'
          have hpd := paid p x7 hp.1 l1 f0 h7'
          rw [l5] at hpd
          have cb := ib_ce he.1 he.2 f0 h7'
          have g145 : gl 145 (((180 * x5) + (9 * p)) + x7) = g 145 (((180 * x5) + (9 * p)) + x7) := by rw [d2 x5 p x7 c0 k1 hp.1 l1 f0 h7', if_neg (fun hh => by omega)]
          have ebn : (x7 + 1).toNat = x7.toNat + 1 := by omega
          refine ⟨ir_and, fun hb1 => ?_, fun hb1 => ⟨⟨c0, k1⟩, by omega, ⟨c0, k1⟩, ?_⟩⟩
          · rw [bit_eq] at hb1
            intro v7 ev7
            refine ⟨(9 - v7).toNat, by omega, by omega, by omega, f2', fun s s0 s1 => ?_, fun s q c s0 s1 q0 q1 z0 z1 => ?_, rfl⟩
            · rw [f3' s s0 s1, ev7, ebn]
              have hz : iv_bit w x7 = 0 := by
                by_cases h0 : iv_bit (iv_op (g 140 p)) x7 = 0
                · rw [if_pos h0, if_pos h0] at hbb; omega
                · rw [if_neg h0, if_neg h0] at hbb; omega
              simp only [iv_pb]
              rw [e6, if_pos hz, Int.add_zero]
            · rw [f4' s q c s0 s1 q0 q1 z0 z1]
              by_cases hh : s = x5 ∧ q = p ∧ c < x7 ∧ iv_bit m c = 1
              · rw [if_pos hh, if_pos ⟨hh.1, hh.2.1, by omega, hh.2.2.2⟩]
              · rw [if_neg hh, if_neg (fun h4 => by
                  by_cases ec : c = x7
                  · rw [ec] at h4; exact hb1 h4.2.2.2
                  · exact hh ⟨h4.1, h4.2.1, by omega, h4.2.2.2⟩)]
          · rw [bit_eq] at hb1
            rintro g3 e3
            refine ⟨by omega, ?_⟩
            rintro g4 e4 v7 ev7
            have h145 : gn 145 v8 = g 145 (((180 * x5) + (9 * p)) + x7) := by rw [ev8, f4' x5 p x7 c0 k1 hp.1 l1 f0 h7', if_neg (fun hh => by omega)]; exact g145
            refine ⟨(9 - v7).toNat, by omega, by omega, by omega, fun i k z0 z1 => by rw [e4, jv_up_n (by omega), e3, jv_up_n (by omega)]; exact f2' i k z0 z1, fun s s0 s1 => ?_, fun s q c s0 s1 q0 q1 z0 z1 => ?_, rfl⟩
            · rw [e4, jv_up_n (by omega), e3]
              by_cases es : s = x5
              · rw [jv_up_e rfl es, if_pos es, f3' x5 c0 k1, if_pos rfl, h145, ev7, ebn, es]
                simp only [iv_pb]
                rw [e6, hpd.2.2.1]
                by_cases h0 : iv_bit (iv_op (g 140 p)) x7 = 0
                · rw [if_pos h0, if_pos h0] at hbb
                  rw [if_pos h0, if_neg (by omega)]; omega
                · rw [if_neg h0, if_neg h0] at hbb
                  rw [if_neg h0, if_pos hbb.2]; omega
              · rw [jv_up_n (fun hh => es hh.2), if_neg es, f3' s s0 s1, if_neg es]
            · rw [e4]
              by_cases hk : ((180 * s) + (9 * q)) + c = v8
              · have e1 : s = x5 ∧ q = p ∧ c = x7 := by omega
                rw [jv_up_e rfl hk, if_pos ⟨e1.1, e1.2.1, by omega, by rw [e1.2.2]; exact hb1⟩]
              · rw [jv_up_n (fun hh => hk hh.2), e3, jv_up_n (by omega), f4' s q c s0 s1 q0 q1 z0 z1]
                by_cases hh : s = x5 ∧ q = p ∧ c < x7 ∧ iv_bit m c = 1
                · rw [if_pos hh, if_pos ⟨hh.1, hh.2.1, by omega, hh.2.2.2⟩]
                · rw [if_neg hh, if_neg (fun h4 => by
                    by_cases ec : c = x7
                    · exact hk (by rw [ev8, h4.1, h4.2.1, ec])
                    · exact hh ⟨h4.1, h4.2.1, by omega, h4.2.2.2⟩)]
