/-! letters that become right -/
theorem iv_run_mono {f f' : Int → Int} : ∀ {n : Nat}, (∀ i : Int, 0 ≤ i → i < n → f i ≠ 0 → f' i ≠ 0) → iv_run f n ≤ iv_run f' n := by
  intro n
  induction n with
  | zero => intro _; exact Int.le_refl _
  | succ n ih =>
    intro h
    have h1 := ih (fun i i0 i1 => h i i0 (by omega))
    have h2 := @iv_run_nn f' n
    simp only [iv_run]
    by_cases e : f (n : Nat) = 0
    · rw [if_pos e]; split <;> omega
    · rw [if_neg e, if_neg (h n (by omega) (by omega) e)]; omega
theorem iv_stk_mono {f f' : Int → Int} {d : Int} (h0 : 0 ≤ d) (h : ∀ i : Int, 0 ≤ i → i ≤ d → f i ≠ 0 → f' i ≠ 0) : iv_stk f d ≤ iv_stk f' d := by
  have h1 := @iv_run_mono f f' d.toNat (fun i i0 i1 => h i i0 (by omega))
  have h2 := @iv_run_mono f f' (d + 1).toNat (fun i i0 i1 => h i i0 (by omega))
  unfold iv_stk
  by_cases e : f d = 0
  · rw [if_pos e]
    by_cases e' : f' d = 0
    · rw [if_pos e']; exact h1
    · rw [if_neg e', show (d + 1).toNat = d.toNat + 1 by omega]
      simp only [iv_run]
      rw [if_neg (by rw [show ((d.toNat : Nat) : Int) = d by omega]; exact e')]
      omega
  · rw [if_neg e, if_neg (h d h0 (by omega) e)]; exact h2
/-- the counters are the same -/
def iv_cn5 (g g' : jv_Mem) : Prop := g' 3 6 = g 3 6 ∧ g' 14 4 = g 14 4 ∧ g' 0 9 = g 0 9 ∧ g' 0 10 = g 0 10 ∧ g' 0 11 = g 0 11
theorem t_becomes {x4 s p c : Int} {Q : jv_Mem → Prop} {g gm : jv_Mem} {P3 P5 P6 : Int → Int} (hI : iJ x4 g) (hx2 : x4 ≤ 2500) (hs : 0 ≤ s ∧ s < g 0 10) (hp : 0 ≤ p ∧ p < g 0 9) (hc : 0 ≤ c ∧ c < 9)
    (p0 : ∀ i k, ¬ ((i = 90 + 6 * s ∧ k = 3) ∨ i = 90 + 6 * s + 4 ∨ i = 90 + 6 * s + 5) → gm i k = g i k)
    (H1 : ∀ s', 0 ≤ s' → s' < g 0 10 → gm (90 + 6 * s') 3 = P3 s' ∧ 0 ≤ P3 s' ∧ P3 s' ≤ 1000 + 72 * (x4 + 5))
    (H2 : ∀ s' q, 0 ≤ s' → s' < 6 → 0 ≤ q → q < 20 → gm (90 + 6 * s' + 5) q = P6 ((20 * s') + q) ∧ 0 ≤ P6 ((20 * s') + q) ∧ 5 * P6 ((20 * s') + q) ≤ x4 + 5)
    (H3 : ∀ s' q x, 0 ≤ s' → s' < 6 → 0 ≤ q → q < 20 → 0 ≤ x → x < 9 → 0 ≤ gm (90 + 6 * s' + 4) ((q * 9) + x) ∧ gm (90 + 6 * s' + 4) ((q * 9) + x) ≤ 40 ∧ P5 (((180 * s') + (9 * q)) + x) = (if iv_bit (g (30 + 3 * q) 4) x = 0 then gm (90 + 6 * s' + 4) ((q * 9) + x) else 0) ∧ (g 0 10 ≤ s' → gm (90 + 6 * s' + 4) ((q * 9) + x) = 0))
    (hQ : ∀ ga gd : jv_Mem, jv_sm ga gd → iJ (x4 + 5) gd → iv_cn5 g gd → (iv_R g → iv_R gd) → iv_ks g s ≤ iv_ks gd s → ga (30 + 3 * p + 1) c = g (30 + 3 * p + 1) c → Q ga) : wp_X8_becomeRight s p c Q gm := by
  obtain ⟨hx, j1, j2, j3, j4, j5, j6, j7, j8⟩ := id hI
  obtain ⟨n1, n2, n3, n4, n5⟩ := id j7
  obtain ⟨y1, y2, y3, -⟩ := id j8
  have j52 := j5.2.1
  have j53 := j5.2.2
  obtain ⟨k1, k2, k3, k4, k5, k6, k7, k8, k9⟩ := ex_s j7 hs.1 hs.2
  obtain ⟨l1, l2, l3, l4, l5, l6, l7, l8, l9⟩ := ex_p j6 hp.1 hp.2
  have s21 := p0 21 4 (by omega)
  have s11 := p0 0 11 (by omega)
  have s30 := p0 (30 + 3 * p) 4 (by omega)
  have s32 := p0 (30 + 3 * p) 2 (by omega)
  have s91 := p0 (90 + 6 * s + 1) 2 (by omega)
  have s92 : ∀ k, gm (90 + 6 * s + 1 + 1) k = g (90 + 6 * s + 1 + 1) k := fun k => p0 _ k (by omega)
  have s93 : ∀ k, gm (90 + 6 * s + 1 + 2) k = g (90 + 6 * s + 1 + 2) k := fun k => p0 _ k (by omega)
  refine u_becomeRight (by omega) (by omega) hs.1 k1 hp.1 l1 hc.1 hc.2 (by omega) (by omega) (by omega) (by omega) (by omega) (by omega) (by omega) (by omega) (fun x x0 x1 => by rw [s92]; exact (k9 p x hp.1 l1 x0 x1).2) (fun ga b1 b2 b3 b4 b5 b6 b7 b8 => ?_)
  rw [s21] at b2 b3 b4 b5 b6
  rw [s11] at b6 b7
  rw [s30, s32, s91] at b8
  have b7' : ∀ k, ga (90 + 6 * s + 1 + 1) k = if k = p * 9 + c then g 0 11 else g (90 + 6 * s + 1 + 1) k := fun k => by rw [b7, s92]
  have b8' : ∀ d, ga (90 + 6 * s + 1 + 2) d = iv_sc (iv_sl (ga (90 + 6 * s + 1 + 1)) p (g (30 + 3 * p) 4) (g (30 + 3 * p) 2)) (g (90 + 6 * s + 1) 2) d (g (90 + 6 * s + 1 + 2) d) := fun d => by rw [b8, s93]
  have b3' : ∀ k, ga 22 k = if k = g 21 4 then s else g 22 k := fun k => by rw [b3, p0 22 k (by omega)]
  have b4' : ∀ k, ga 23 k = if k = g 21 4 then p else g 23 k := fun k => by rw [b4, p0 23 k (by omega)]
  have b5' : ∀ k, ga 24 k = if k = g 21 4 then c else g 24 k := fun k => by rw [b5, p0 24 k (by omega)]
  have b6' : ∀ k, ga 25 k = if k = g 21 4 then g 0 11 else g 25 k := fun k => by rw [b6, p0 25 k (by omega)]
  clear b3 b4 b5 b6 b7 b8
  generalize hv : iv_sl (ga (90 + 6 * s + 1 + 1)) p (g (30 + 3 * p) 4) (g (30 + 3 * p) 2) = v at b8'
  generalize hgd : (fun i k => if i = 143 then P3 k else if i = 145 then P5 k else if i = 146 then P6 k else if i = 144 then (if k = ((180 * s) + (9 * p)) + c then g 0 11 + 1 else g 144 k) else if i = 147 then (if ¬ v = -1 ∧ k = (1260 * s) + iv_day (g 142 s) v then 1 else g 147 k) else ga i k : jv_Mem) = gd
  have d143 : ∀ k, gd 143 k = P3 k := fun k => by rw [← hgd]; exact if_pos rfl
  have d145 : ∀ k, gd 145 k = P5 k := fun k => by rw [← hgd]; exact (if_neg (by omega)).trans (if_pos rfl)
  have d146 : ∀ k, gd 146 k = P6 k := fun k => by rw [← hgd]; exact (if_neg (by omega)).trans ((if_neg (by omega)).trans (if_pos rfl))
  have d144 : ∀ k, gd 144 k = if k = ((180 * s) + (9 * p)) + c then g 0 11 + 1 else g 144 k := fun k => by rw [← hgd]; exact (if_neg (by omega)).trans ((if_neg (by omega)).trans ((if_neg (by omega)).trans (if_pos rfl)))
  have d147 : ∀ k, gd 147 k = if ¬ v = -1 ∧ k = (1260 * s) + iv_day (g 142 s) v then 1 else g 147 k := fun k => by rw [← hgd]; exact (if_neg (by omega)).trans ((if_neg (by omega)).trans ((if_neg (by omega)).trans ((if_neg (by omega)).trans (if_pos rfl))))
  have doth : ∀ i k, ¬ (143 ≤ i ∧ i ≤ 147) → gd i k = ga i k := fun i k z => by rw [← hgd]; exact (if_neg (by omega)).trans ((if_neg (by omega)).trans ((if_neg (by omega)).trans ((if_neg (by omega)).trans (if_neg (by omega)))))
  clear hgd
  have dgm : ∀ i k, ¬ (143 ≤ i ∧ i ≤ 147) → ¬ (22 ≤ i ∧ i ≤ 25) → ¬ (i = 21 ∧ k = 4) → i ≠ 90 + 6 * s + 1 + 1 → i ≠ 90 + 6 * s + 1 + 2 → gd i k = gm i k := fun i k z1 z2 z3 z4 z5 => by rw [doth i k z1]; exact b1 i k (by omega) (by omega) (by omega) (by omega) z3 z4 z5
  have dg : ∀ i k, ¬ ((143 ≤ i ∧ i ≤ 147) ∨ (22 ≤ i ∧ i ≤ 25) ∨ (i = 21 ∧ k = 4) ∨ i = 90 + 6 * s + 1 + 1 ∨ i = 90 + 6 * s + 1 + 2 ∨ (i = 90 + 6 * s ∧ k = 3) ∨ i = 90 + 6 * s + 4 ∨ i = 90 + 6 * s + 5) → gd i k = g i k := fun i k z => by rw [dgm i k (by omega) (by omega) (by omega) (by omega) (by omega)]; exact p0 i k (by omega)
  have gdr : gd (90 + 6 * s + 1 + 1) = ga (90 + 6 * s + 1 + 1) := funext fun k => doth _ k (by omega)
  have J78 : iJ7 (x4 + 5) gd ∧ iJ8 (x4 + 5) gd := by
    refine step_right (s := s) (p := p) (c := c) j5 j6 j7 j8 (by omega) hs.1 hs.2 hp.1 hp.2 hc.1 hc.2 (fun k => dg 0 k (by omega)) (dg 126 22 (by omega)) (fun i k i0 i1 => dg i k (by omega)) (fun i k hi => dg i k (by omega)) (fun s' k q0 q1 => dg _ k (by omega)) (fun s' k q0 q1 q2 => ⟨dg _ k (by omega), dg _ k (by omega)⟩) (by rw [doth 21 4 (by omega)]; exact b2) (fun k => by rw [doth 22 k (by omega)]; exact b3' k) (fun k => by rw [doth 23 k (by omega)]; exact b4' k) (fun k => by rw [doth 24 k (by omega)]; exact b5' k) (fun k => by rw [doth 25 k (by omega)]; exact b6' k) (fun k => by rw [gdr]; exact b7' k) (fun k => by rw [gdr, hv, doth _ k (by omega)]; exact b8' k) d144 (fun k => by rw [gdr, hv]; exact d147 k) (fun s' q0 q1 => ?_) (fun s' q q0 q1 w0 w1 => ?_) (fun s' q x q0 q1 w0 w1 w2 w3 => ?_)
    · rw [d143, dgm _ 3 (by omega) (by omega) (by omega) (by omega) (by omega)]; exact H1 s' q0 q1
    · rw [d146, dgm _ q (by omega) (by omega) (by omega) (by omega) (by omega)]; exact H2 s' q q0 q1 w0 w1
    · rw [d145, dgm _ _ (by omega) (by omega) (by omega) (by omega) (by omega)]; exact H3 s' q x q0 q1 w0 w1 w2 w3
  have I' : iJ (x4 + 5) gd := hI.right (fun i k i0 i1 i2 i3 => dg i k (by omega)) J78
  have hd := @iv_day_r (g 142 s) (g 0 11) j52 (by omega) k6 k7
  refine hQ ga gd (fun i k h => doth i k (by omega)) I' ⟨dg 3 6 (by omega), dg 14 4 (by omega), dg 0 9 (by omega), dg 0 10 (by omega), dg 0 11 (by omega)⟩ (fun hR s' k q0 q1 k0 k1' => ?_) ?_ (by rw [b1 _ c (by omega) (by omega) (by omega) (by omega) (by omega) (by omega) (by omega)]; exact p0 _ c (by omega))
  · rw [dg 0 10 (by omega)] at q1
    rw [dg 0 11 (by omega)]
    by_cases e : s' = s
    · rw [e, gdr, b7']
      have := hR s k hs.1 hs.2 k0 k1'
      split <;> omega
    · rw [dg (90 + 6 * s' + 1 + 1) k (by omega)]; exact hR s' k q0 q1 k0 k1'
  · unfold iv_ks
    rw [dg (90 + 6 * s + 1) 2 (by omega), dg 0 11 (by omega), k5]
    refine iv_stk_mono hd.1 (fun i i0 i1 hne => ?_)
    rw [doth _ i (by omega), b8']
    unfold iv_sc
    split
    · exact hne
    · split
      · decide
      · exact hne
theorem t_enter {x4 s p c d : Int} {Q : Int → jv_Mem → Prop} {g : jv_Mem} (hI : iJ x4 g) (hx2 : x4 ≤ 2500) (hs : 0 ≤ s ∧ s < g 0 10) (hp : 0 ≤ p ∧ p < g 0 9) (hc : 0 ≤ c ∧ c < 9) (hd : 0 ≤ d ∧ d < 9)
    (hN : ∀ r : Int, -3 ≤ r → r ≤ 0 → Q r g) (hY : ∀ gd : jv_Mem, iJ (x4 + 5) gd → iv_cn5 g gd → (iv_R g → iv_R gd) → iv_ks g s ≤ iv_ks gd s → Q 1 gd) : wp_L_enter s p c d Q g := by
  obtain ⟨hx, j1, j2, j3, j4, j5, j6, j7, j8⟩ := id hI
  obtain ⟨n1, n2, n3, n4, n5⟩ := id j7
  have m3 := j6.2.2.1
  obtain ⟨k1, k2, k3, k4, k5, k6, k7, k8, k9⟩ := ex_s j7 hs.1 hs.2
  obtain ⟨l1, l2, l3, l4, l5, l6, l7, l8, l9⟩ := ex_p j6 hp.1 hp.2
  have kc := k9 p c hp.1 l1 hc.1 hc.2
  have lc := (j6.2.2.2.1 p hp.1 hp.2).2.2.2.1 c hc.1 hc.2
  unfold wp_L_enter wp_X8_enter
  refine u_needCellOf (by unfold jv_r; omega) (by unfold jv_r; omega) hs hp hc (u_needIndex (by unfold jv_r; omega) hd (u_needUnfinished hs.1 k1 hp.1 l1 hc.1 hc.2 (by unfold jv_r; omega) (fun hr hb => ⟨⟨hp.1, l1⟩, ⟨hc.1, hc.2⟩, ⟨(by unfold jv_r; omega), (by unfold jv_r; omega)⟩, fun _ => ?_, fun _ => ?_⟩) (fun _ => ⟨rfl, hN (-3) (by omega) (by omega)⟩)))
  · exact ⟨(by unfold jv_r; omega), fun _ => ⟨Or.inl rfl, g, jv_sm.rf, (by unfold jv_r; omega), fun _ => hN 0 (by omega) (by omega), fun h => absurd rfl h⟩, fun h => absurd rfl h⟩
  · refine ⟨(by unfold jv_r; omega), fun h => absurd h (by omega), fun _ => ?_⟩
    refine t_becomes (P3 := g 143) (P5 := g 145) (P6 := g 146) hI hx2 hs hp hc (fun _ _ _ => rfl) (fun s' q0 q1 => ?_) (fun s' q q0 q1 w0 w1 => ?_) (fun s' q x q0 q1 w0 w1 w2 w3 => (n5 s' q0 q1).2.2.2 q x w0 w1 w2 w3) (fun ga gd sm I' cn R' K' _ => ?_)
    · obtain ⟨b1', b2', b3', -⟩ := n4 s' q0 q1
      exact ⟨b1', b2', by omega⟩
    · obtain ⟨-, -, b3', -⟩ := n5 s' q0 q1
      have := b3' q w0 w1
      omega
    · exact ⟨Or.inr rfl, gd, sm, (by unfold jv_r; omega), fun h => absurd h (by omega), fun _ => hY gd I' cn R' K'⟩
theorem t_help {x4 s p c : Int} {Q : Int → jv_Mem → Prop} {g : jv_Mem} (hI : iJ x4 g) (hx2 : x4 ≤ 2500) (hs : 0 ≤ s ∧ s < g 0 10) (hp : 0 ≤ p ∧ p < g 0 9) (hc : 0 ≤ c ∧ c < 9)
    (hN : Q (-3) g) (hY : ∀ (r : Int) (gd : jv_Mem), 0 ≤ r → r < 9 → iJ (x4 + 5) gd → iv_cn5 g gd → (iv_R g → iv_R gd) → iv_ks g s ≤ iv_ks gd s → Q r gd) : wp_L_help s p c Q g := by
  obtain ⟨hx, j1, j2, j3, j4, j5, j6, j7, j8⟩ := id hI
  obtain ⟨n1, n2, n3, n4, n5⟩ := id j7
  have m3 := j6.2.2.1
  obtain ⟨k1, k2, k3, k4, k5, k6, k7, k8, k9⟩ := ex_s j7 hs.1 hs.2
  obtain ⟨l1, l2, l3, l4, l5, l6, l7, l8, l9⟩ := ex_p j6 hp.1 hp.2
  have kc := k9 p c hp.1 l1 hc.1 hc.2
  have lc := (j6.2.2.2.1 p hp.1 hp.2).2.2.2.1 c hc.1 hc.2
  obtain ⟨hh1, hh2, hh3⟩ := (n5 s hs.1 k1).2.2.1 p hp.1 l1
  have hcr := iv_cost_r (g 146 ((20 * s) + p)).toNat
  unfold wp_L_help wp_X8_help
  refine u_needCellOf (by unfold jv_r; omega) (by unfold jv_r; omega) hs hp hc (u_needUnfinished hs.1 k1 hp.1 l1 hc.1 hc.2 (by unfold jv_r; omega) (fun hr hb => ⟨⟨hs.1, k1⟩, ?_⟩) (fun _ => ⟨rfl, hN⟩))
  unfold wp_X4_canPayHelp
  refine u_cost hp.1 l1 (by omega) (by omega) ?_
  rw [hh1, k2]
  refine ⟨⟨(by unfold jv_r; omega), (by unfold jv_r; omega)⟩, fun hlt => ⟨(by unfold jv_r; omega), fun h9 => absurd rfl h9, fun _ => ⟨rfl, hN⟩⟩, fun hle => ⟨(by unfold jv_r; omega), fun _ => ⟨⟨hs.1, k1⟩, ?_⟩, fun h9 => absurd h9 (by omega)⟩⟩
  unfold wp_X4_payHelp
  refine u_cost hp.1 l1 (by omega) (by omega) ?_
  rw [hh1, k2]
  generalize hw : iv_cost (g 146 ((20 * s) + p)).toNat = w at hcr hle ⊢
  rintro g1 e1
  refine ⟨by omega, ?_⟩
  rintro g2 e2
  have x5 : g2 (90 + 6 * s + 5) p = g 146 ((20 * s) + p) := by rw [e2, jv_up_n (by omega), e1, jv_up_n (by omega)]; exact hh1
  rw [x5]
  refine ⟨⟨hp.1, l1⟩, ⟨hp.1, l1⟩, ?_⟩
  rintro g3 e3
  have p0 : ∀ i k, ¬ ((i = 90 + 6 * s ∧ k = 3) ∨ i = 90 + 6 * s + 4 ∨ i = 90 + 6 * s + 5) → g3 i k = g i k := fun i k z => by rw [e3, jv_up_n (by omega), e2, jv_up_n (by omega), e1, jv_up_n (by omega)]
  have p3 : g3 (90 + 6 * s) 3 = g 143 s - w := by rw [e3, jv_up_n (by omega), e2, jv_up_n (by omega), e1, jv_up_e rfl rfl]
  have p4 : ∀ k, g3 (90 + 6 * s + 4) k = if k = p * 9 + c then w else g (90 + 6 * s + 4) k := fun k => by
    rw [e3, jv_up_n (by omega), e2]
    by_cases e : k = p * 9 + c
    · rw [jv_up_e rfl e, if_pos e]
    · rw [jv_up_n (fun hh => e hh.2), if_neg e, e1, jv_up_n (by omega)]
  have p5 : ∀ k, g3 (90 + 6 * s + 5) k = if k = p then g 146 ((20 * s) + p) + 1 else g (90 + 6 * s + 5) k := fun k => by
    rw [e3]
    by_cases e : k = p
    · rw [jv_up_e rfl e, if_pos e]
    · rw [jv_up_n (fun hh => e hh.2), if_neg e, e2, jv_up_n (by omega), e1, jv_up_n (by omega)]
  clear e1 e2 e3 x5
  refine t_becomes (P3 := fun k => if k = s then g 143 s - w else g 143 k) (P5 := fun k => if k = ((180 * s) + (9 * p)) + c then w else g 145 k) (P6 := fun k => if k = (20 * s) + p then g 146 ((20 * s) + p) + 1 else g 146 k) hI hx2 hs hp hc p0 (fun s' q0 q1 => ?_) (fun s' q q0 q1 w0 w1 => ?_) (fun s' q x q0 q1 w0 w1 w2 w3 => ?_) (fun ga gd sm I' cn R' K' qlet => ?_)
  · obtain ⟨b1', b2', b3', -⟩ := n4 s' q0 q1
    by_cases e : s' = s
    · rw [if_pos e, e, p3]
      exact ⟨rfl, by omega, by omega⟩
    · rw [if_neg e, p0 (90 + 6 * s') 3 (by omega)]
      exact ⟨b1', b2', by omega⟩
  · have bb := (n5 s' q0 q1).2.2.1 q w0 w1
    by_cases e : s' = s
    · rw [e, p5]
      rw [e] at bb
      by_cases e2 : q = p
      · rw [if_pos e2, if_pos (by omega)]; omega
      · rw [if_neg e2, if_neg (by omega)]; omega
    · rw [if_neg (by omega), p0 (90 + 6 * s' + 5) q (by omega)]
      omega
  · have bb := (n5 s' q0 q1).2.2.2 q x w0 w1 w2 w3
    by_cases e : s' = s
    · rw [e, p4]
      rw [e] at bb
      by_cases e2 : q * 9 + x = p * 9 + c
      · have e3 : q = p := by omega
        have e4 : x = c := by omega
        rw [if_pos e2, if_pos (by omega), e3, e4, if_pos hb]
        exact ⟨by omega, by omega, rfl, fun h9 => by omega⟩
      · rw [if_neg e2, if_neg (by omega)]; exact bb
    · rw [if_neg (by omega), p0 (90 + 6 * s' + 4) _ (by omega)]
      exact bb
  · refine ⟨⟨hp.1, l1⟩, ⟨hc.1, hc.2⟩, ?_⟩
    rw [qlet, lc.1]
    exact ⟨gd, sm, hY _ gd lc.2.1 lc.2.2 I' cn R' K'⟩
