theorem iv_fj {g g' : jv_Mem} {x4 x4' : Int} (h : iJ x4 g) (hx : x4 ≤ x4') (h1 : ∀ i, i ≠ 10 → i ≠ 12 → i ≠ 13 → i ≠ 126 → i ≠ 131 → i ≠ 133 → i ≠ 148 → g' i = g i) (h2 : ∀ k, k ≠ 8 → k ≠ 9 → k ≠ 29 → g' 126 k = g 126 k) : iJ x4' g' :=
  h.fr hx (fun i k hik => by
    unfold jv_scr at hik
    by_cases e : i = 126
    · subst e; exact h2 k (by omega) (by omega) (by omega)
    · rw [h1 i (by omega) (by omega) (by omega) e (by omega) (by omega) (by omega)])
theorem cs_10 {L : Nat} {xs : Nat → Int32} (hL : L ≤ 2560) : ∀ (x4 : Int) (g : jv_Mem), 0 ≤ x4 → x4 + 4 < ((L : Nat) : Int) → iJ x4 g → wp_LC_10 xs L x4 (iJ (x4 + 5)) g := by
  intro x4 g h0 h4 hI
  obtain ⟨hx, j1, j2, j3, j4, j5, j6, j7, j8⟩ := id hI
  unfold wp_LC_10 wp_X8_fillWeight
  refine u_search j2 j3 (fun g1 c1 c2 => ?_)
  unfold wp_X6_bestWeight wp_X9_fillWeight
  rintro g2 e2
  have b1 : ∀ i, i ≠ 10 → i ≠ 12 → i ≠ 13 → i ≠ 126 → g2 i = g i := fun i p1 p2 p3 p4 => by rw [e2, jv_up_row p4, c1 i p1 p2 p3]
  have b2 : ∀ k, k ≠ 29 → g2 126 k = g 126 k := fun k p => by rw [e2, jv_up_n (by omega), c1 126 (by omega) (by omega) (by omega)]
  have k2 : iJ2 g2 := j2.fr (fun i k q => by
    unfold f2 at q
    by_cases e : i = 126
    · subst e; exact b2 k (by omega)
    · rw [b1 i (by omega) (by omega) (by omega) e])
  have k3 : iJ3 g2 := j3.fr (fun i k q => by unfold f3 at q; rw [b1 i (by omega) (by omega) (by omega) (by omega)])
  refine u_findsFills k2 k3 (fun g3 d1 d2 d3 => ?_)
  rw [b1 132 (by omega) (by omega) (by omega) (by omega), b1 129 (by omega) (by omega) (by omega) (by omega), b1 128 (by omega) (by omega) (by omega) (by omega), b1 130 (by omega) (by omega) (by omega) (by omega), b1 7 (by omega) (by omega) (by omega) (by omega), b1 3 (by omega) (by omega) (by omega) (by omega)] at d3
  have hfin : iJ (x4 + 5) g3 := iv_fj hI (by omega) (fun i p1 p2 p3 p4 p5 p6 p7 => by rw [d1 i p4 p5 p6, b1 i p1 p2 p3 p4]) (fun k p1 p2 p3 => by rw [d2 k p1 p2, b2 k p3])
  have e1 := c2.2.1
  have e3 := d3.2.1
  have er := c2.2.2.2
  refine ⟨⟨(by unfold jv_r; omega), by rw [e3, ← e1]; unfold jv_r; omega⟩, fun _ => hfin, fun h => h (by rw [e1, e3])⟩
theorem cs_12 {L : Nat} {xs : Nat → Int32} (hL : L ≤ 2560) : ∀ (x4 : Int) (g : jv_Mem), 0 ≤ x4 → x4 + 4 < ((L : Nat) : Int) → iJ x4 g → wp_LC_12 xs L x4 (iJ (x4 + 5)) g := by
  intro x4 g h0 h4 hI
  obtain ⟨hx, j1, j2, j3, j4, j5, j6, j7, j8⟩ := id hI
  unfold wp_LC_12 wp_X8_fills
  refine u_search j2 j3 (fun g1 c1 c2 => ?_)
  unfold wp_X6_foundCount wp_X9_fills
  rintro g2 e2
  have b1 : ∀ i, i ≠ 10 → i ≠ 12 → i ≠ 13 → i ≠ 126 → g2 i = g i := fun i p1 p2 p3 p4 => by rw [e2, jv_up_row p4, c1 i p1 p2 p3]
  have b2 : ∀ k, k ≠ 29 → g2 126 k = g 126 k := fun k p => by rw [e2, jv_up_n (by omega), c1 126 (by omega) (by omega) (by omega)]
  have k2 : iJ2 g2 := j2.fr (fun i k q => by
    unfold f2 at q
    by_cases e : i = 126
    · subst e; exact b2 k (by omega)
    · rw [b1 i (by omega) (by omega) (by omega) e])
  have k3 : iJ3 g2 := j3.fr (fun i k q => by unfold f3 at q; rw [b1 i (by omega) (by omega) (by omega) (by omega)])
  refine u_findsFills k2 k3 (fun g3 d1 d2 d3 => ?_)
  rw [b1 132 (by omega) (by omega) (by omega) (by omega), b1 129 (by omega) (by omega) (by omega) (by omega), b1 128 (by omega) (by omega) (by omega) (by omega), b1 130 (by omega) (by omega) (by omega) (by omega), b1 7 (by omega) (by omega) (by omega) (by omega), b1 3 (by omega) (by omega) (by omega) (by omega)] at d3
  have hfin : iJ (x4 + 5) g3 := iv_fj hI (by omega) (fun i p1 p2 p3 p4 p5 p6 p7 => by rw [d1 i p4 p5 p6, b1 i p1 p2 p3 p4]) (fun k p1 p2 p3 => by rw [d2 k p1 p2, b2 k p3])
  have e1 := c2.1
  have e3 := d3.1
  have er := iv_F_rJ j2 (g 132)
  refine ⟨⟨by rw [e1]; unfold jv_r; omega, by rw [e3]; unfold jv_r; omega⟩, fun _ => hfin, fun h => h (by rw [e1, e3])⟩
theorem cs_11 {L : Nat} {xs : Nat → Int32} (hL : L ≤ 2560) : ∀ (x4 : Int) (g : jv_Mem), 0 ≤ x4 → x4 + 4 < ((L : Nat) : Int) → iJ x4 g → wp_LC_11 xs L x4 (iJ (x4 + 5)) g := by
  intro x4 g h0 h4 hI
  obtain ⟨hx, j1, j2, j3, j4, j5, j6, j7, j8⟩ := id hI
  unfold wp_LC_11 wp_X8_fillWeightByAll
  refine u_greatest j2 j3 (fun G g1 c1 c2 => ?_)
  unfold wp_X9_fillWeightByAll wp_X9_fillWeight
  rintro g2 e2
  have b1 : ∀ i, i ≠ 10 → i ≠ 12 → i ≠ 13 → i ≠ 126 → g2 i = g i := fun i p1 p2 p3 p4 => by rw [e2, jv_up_row p4, c1 i p2]
  have b2 : ∀ k, k ≠ 29 → g2 126 k = g 126 k := fun k p => by rw [e2, jv_up_n (by omega), c1 126 (by omega)]
  have k2 : iJ2 g2 := j2.fr (fun i k q => by
    unfold f2 at q
    by_cases e : i = 126
    · subst e; exact b2 k (by omega)
    · rw [b1 i (by omega) (by omega) (by omega) e])
  have k3 : iJ3 g2 := j3.fr (fun i k q => by unfold f3 at q; rw [b1 i (by omega) (by omega) (by omega) (by omega)])
  refine u_findsFills k2 k3 (fun g3 d1 d2 d3 => ?_)
  rw [b1 132 (by omega) (by omega) (by omega) (by omega), b1 129 (by omega) (by omega) (by omega) (by omega), b1 128 (by omega) (by omega) (by omega) (by omega), b1 130 (by omega) (by omega) (by omega) (by omega), b1 7 (by omega) (by omega) (by omega) (by omega), b1 3 (by omega) (by omega) (by omega) (by omega)] at d3
  have hfin : iJ (x4 + 5) g3 := by
    refine hI.fr (by omega) (fun i k hik => ?_)
    unfold jv_scr at hik
    by_cases e : i = 126
    · subst e; rw [d2 k (by omega) (by omega), b2 k (by omega)]
    · rw [d1 i (by omega) (by omega) (by omega), b1 i (by omega) (by omega) (by omega) (by omega)]
  have e3 := d3.2.1
  have hm := iv_F_mx j2
  obtain ⟨y1, y2, y3, y4⟩ := hm
  obtain ⟨z1, z2, z3, z4⟩ := c2
  have hE : G = (iv_F (g 132) (g 129) (g 128) (g 130) (g 7) (g 3 6).toNat).2.1 := by
    generalize (iv_F (g 132) (g 129) (g 128) (g 130) (g 7) (g 3 6).toNat).2.1 = F at *
    have l1 : G ≤ F := by
      rcases z3 with z3 | ⟨a, b, c, ha, hb, hc, hv, hw⟩
      · clear y3; omega
      · rw [← hw]; exact y4 a b c ha hb hc trivial hv
    have l2 : F ≤ G := by
      rcases y3 with y3 | ⟨a, b, c, ha, hb, hc, hv, hw⟩
      · clear z3; omega
      · rw [← hw]; exact z4 a b c ha hb hc trivial hv
    exact Int.le_antisymm l1 l2
  clear y3 z3
  refine ⟨⟨(by unfold jv_r; omega), by rw [e3]; unfold jv_r; omega⟩, fun _ => hfin, fun h => h (by rw [e3]; exact hE)⟩
theorem cs_13 {L : Nat} {xs : Nat → Int32} (hL : L ≤ 2560) : ∀ (x4 : Int) (g : jv_Mem), 0 ≤ x4 → x4 + 4 < ((L : Nat) : Int) → iJ x4 g → wp_LC_13 xs L x4 (iJ (x4 + 5)) g := by
  intro x4 g h0 h4 hI
  obtain ⟨hx, j1, j2, j3, j4, j5, j6, j7, j8⟩ := id hI
  have ra := jv_sx_r xs (x4 + 1)
  unfold wp_LC_13 wp_L_fillAt wp_X8_fillAt
  generalize jv_sx xs (x4 + 1) = a at ra ⊢
  have ra' := ra
  obtain ⟨ra0, ra1⟩ := ra
  have er := iv_F_rJ j2 (g 132)
  have model : ∀ (Q : Int → jv_Mem → Prop) (gs : jv_Mem), 0 ≤ a ∧ a < 9 → (∀ i, i ≠ 10 → i ≠ 12 → i ≠ 13 → i ≠ 148 → gs i = g i) → (∀ g3 : jv_Mem, (∀ i, i ≠ 126 → i ≠ 131 → i ≠ 133 → g3 i = gs i) → (∀ k, k ≠ 8 → k ≠ 9 → k ≠ 29 → g3 126 k = g 126 k) → g3 126 29 = 0 → (iv_F (g 132) (g 129) (g 128) (g 130) (g 7) (g 3 6).toNat).2.1 ≠ -1 → Q (iv_dg (g 129 (if a / 3 = 0 then (iv_F (g 132) (g 129) (g 128) (g 130) (g 7) (g 3 6).toNat).2.2.1 else if a / 3 = 1 then (iv_F (g 132) (g 129) (g 128) (g 130) (g 7) (g 3 6).toNat).2.2.2.1 else (iv_F (g 132) (g 129) (g 128) (g 130) (g 7) (g 3 6).toNat).2.2.2.2)) (a % 3)) g3) → (∀ g3 : jv_Mem, (∀ i, i ≠ 126 → i ≠ 131 → i ≠ 133 → g3 i = gs i) → (∀ k, k ≠ 8 → k ≠ 9 → k ≠ 29 → g3 126 k = g 126 k) → g3 126 29 = 2 → (iv_F (g 132) (g 129) (g 128) (g 130) (g 7) (g 3 6).toNat).2.1 = -1 → Q 0 g3) → wp_X9_fillAt a Q gs := by
    intro Q gs ha c1 hQ1 hQ2
    unfold wp_X9_fillAt
    refine u_in ra' (by unfold jv_r; omega) (by unfold jv_r; omega) (fun h => ⟨(by unfold jv_r; omega), fun h9 => by omega, fun _ => ?_⟩) (fun h => absurd ha (by omega))
    rintro g2 e2
    have b1 : ∀ i, i ≠ 10 → i ≠ 12 → i ≠ 13 → i ≠ 126 → i ≠ 148 → g2 i = g i := fun i p1 p2 p3 p4 p5 => by rw [e2, jv_up_row p4, c1 i p1 p2 p3 p5]
    have b2 : ∀ k, k ≠ 29 → g2 126 k = g 126 k := fun k p => by rw [e2, jv_up_n (by omega), c1 126 (by omega) (by omega) (by omega) (by omega)]
    have b29 : g2 126 29 = 0 := by rw [e2, jv_up_e rfl rfl]
    have bs : ∀ i, i ≠ 126 → g2 i = gs i := fun i p => by rw [e2, jv_up_row p]
    have k2 : iJ2 g2 := j2.fr (fun i k q => by
      unfold f2 at q
      by_cases e : i = 126
      · subst e; exact b2 k (by omega)
      · rw [b1 i (by omega) (by omega) (by omega) e (by omega)])
    have k3 : iJ3 g2 := j3.fr (fun i k q => by unfold f3 at q; rw [b1 i (by omega) (by omega) (by omega) (by omega) (by omega)])
    rw [b29]
    refine ⟨(by unfold jv_r; omega), fun _ => ?_, fun h9 => by omega⟩
    refine u_findsFills k2 k3 (fun g3 d1 d2 d3 => ?_)
    rw [b1 132 (by omega) (by omega) (by omega) (by omega) (by omega), b1 129 (by omega) (by omega) (by omega) (by omega) (by omega), b1 128 (by omega) (by omega) (by omega) (by omega) (by omega), b1 130 (by omega) (by omega) (by omega) (by omega) (by omega), b1 7 (by omega) (by omega) (by omega) (by omega) (by omega), b1 3 (by omega) (by omega) (by omega) (by omega) (by omega)] at d3
    have hQ1 := hQ1 g3 (fun i p1 p2 p3 => by rw [d1 i p1 p2 p3, bs i p1]) (fun k p1 p2 p3 => by rw [d2 k p1 p2, b2 k p3]) (by rw [d2 29 (by omega) (by omega)]; exact b29)
    have e129 : g3 129 = g 129 := by rw [d1 129 (by omega) (by omega) (by omega), b1 129 (by omega) (by omega) (by omega) (by omega) (by omega)]
    generalize iv_F (g 132) (g 129) (g 128) (g 130) (g 7) (g 3 6).toNat = F at *
    obtain ⟨t1, t2, t3, t4⟩ := d3
    refine ⟨(by unfold jv_r; omega), fun hne => ?_, fun he => ?_⟩
    · have t3 := t3 (by omega)
      have hQ1 := hQ1 (by omega)
      have hR := er.2.2.2.2 (by omega)
      have q1 : jv_div a 3 = a / 3 := iv_div (by omega) (by omega) (by omega) (by omega)
      have q2 : jv_rem a 3 = a % 3 := iv_rem (by omega) (by omega) (by omega) (by omega)
      rw [q1, q2, e129]
      have q3 : g3 133 (a / 3) = if a / 3 = 0 then F.2.2.1 else if a / 3 = 1 then F.2.2.2.1 else F.2.2.2.2 := by
        have hx : a / 3 = 0 ∨ a / 3 = 1 ∨ a / 3 = 2 := by omega
        rcases hx with e | e | e
        · rw [e, if_pos rfl]; exact t3.1
        · rw [e, if_neg (by omega), if_pos rfl]; exact t3.2.1
        · rw [e, if_neg (by omega), if_neg (by omega)]; exact t3.2.2
      have hx : 0 ≤ g3 133 (a / 3) ∧ g3 133 (a / 3) < g 3 6 := by
        rw [q3]
        split
        · exact hR.1
        · split
          · exact hR.2.1
          · exact hR.2.2.1
      have hw := j2.2.2.2.1 _ hx.1 hx.2
      have hm := j2.2.2.1
      refine ⟨by omega, by omega, u_letterOf hw.1 (by omega) (by omega) (by omega) ?_⟩
      rw [q3]; exact hQ1
    · unfold wp_X9_fails
      rintro g4 e4
      exact hQ2 g4 (fun i p1 p2 p3 => by rw [e4, jv_up_row p1, d1 i p1 p2 p3, bs i p1]) (fun k p1 p2 p3 => by rw [e4, jv_up_n (by omega), d2 k p1 p2, b2 k p3]) (by rw [e4, jv_up_e rfl rfl]) (by omega)
  refine ⟨by omega, u_needIndex ra' (by unfold jv_r; omega) (fun ha => ?_) (fun ha => Or.inl ⟨rfl, by omega, ?_⟩)⟩
  · refine u_search j2 j3 (fun g1 c1 c2 => ?_)
    unfold wp_X6_bestWeight
    have k2 : iJ2 g1 := j2.fr (fun i k q => by unfold f2 at q; rw [c1 i (by omega) (by omega) (by omega)])
    have e129 : g1 129 = g 129 := c1 129 (by omega) (by omega) (by omega)
    have e3 : g1 3 = g 3 := c1 3 (by omega) (by omega) (by omega)
    generalize hF : iv_F (g 132) (g 129) (g 128) (g 130) (g 7) (g 3 6).toNat = F at *
    obtain ⟨t1, t2, t3, t4⟩ := c2
    refine ⟨(by unfold jv_r; omega), fun hne => ?_, fun he => Or.inr ⟨rfl, by omega, ?_⟩⟩
    · have t3 := t3 (by omega)
      have hR := er.2.2.2.2 (by omega)
      have q1 : jv_div a 3 = a / 3 := iv_div (by omega) (by omega) (by omega) (by omega)
      have q2 : jv_rem a 3 = a % 3 := iv_rem (by omega) (by omega) (by omega) (by omega)
      have q3 : g1 13 (a / 3) = if a / 3 = 0 then F.2.2.1 else if a / 3 = 1 then F.2.2.2.1 else F.2.2.2.2 := by
        have hx : a / 3 = 0 ∨ a / 3 = 1 ∨ a / 3 = 2 := by omega
        rcases hx with e | e | e
        · rw [e, if_pos rfl]; exact t3.1
        · rw [e, if_neg (by omega), if_pos rfl]; exact t3.2.1
        · rw [e, if_neg (by omega), if_neg (by omega)]; exact t3.2.2
      have hx : 0 ≤ g1 13 (a / 3) ∧ g1 13 (a / 3) < g 3 6 := by
        rw [q3]
        split
        · exact hR.1
        · split
          · exact hR.2.1
          · exact hR.2.2.1
      have hw := j2.2.2.2.1 _ hx.1 hx.2
      have hd := @iv_dg_r (g 129 (g1 13 (a / 3))) (a % 3) hw.1 hw.2.1
      unfold wp_X6_bestLetter
      rw [q1, q2]
      refine ⟨by omega, u_letterX k2 hx.1 (by rw [e3]; exact hx.2) (by omega) (by omega) ?_⟩
      rw [e129]
      rw [q3] at hd ⊢
      refine ⟨(by unfold jv_r; omega), by omega, ?_⟩
      rintro g2 e2
      refine ⟨by omega, model _ g2 ha (fun i p1 p2 p3 p4 => by rw [e2, jv_up_row p4, c1 i p1 p2 p3]) (fun g3 d1 d2 d3 _ => ?_) (fun g3 _ _ _ h9 => by omega)⟩
      refine lc_end d3 (by unfold jv_r; omega) (fun _ => ⟨by rw [d1 148 (by omega) (by omega) (by omega), e2, jv_up_e rfl rfl], (by unfold jv_r; omega)⟩) ?_
      exact iv_fj hI (by omega) (fun i p1 p2 p3 p4 p5 p6 p7 => by rw [d1 i p4 p5 p6, e2, jv_up_row p7, c1 i p1 p2 p3]) d2
    · refine model _ g1 ha (fun i p1 p2 p3 p4 => c1 i p1 p2 p3) (fun g3 _ _ _ h9 => by omega) (fun g3 d1 d2 d3 _ => ?_)
      refine lc_end d3 (by unfold jv_r; omega) (fun h9 => absurd h9 (by omega)) ?_
      exact iv_fj hI (by omega) (fun i p1 p2 p3 p4 p5 p6 p7 => by rw [d1 i p4 p5 p6, c1 i p1 p2 p3]) d2
  · unfold wp_X9_fillAt
    refine u_in ra' (by unfold jv_r; omega) (by unfold jv_r; omega) (fun h => absurd h (by omega)) (fun h => ⟨(by unfold jv_r; omega), fun _ => ?_, fun h9 => absurd rfl h9⟩)
    rintro g1 rfl
    have e : jv_up g 126 29 1 126 29 = 1 := jv_up_e rfl rfl
    rw [e]
    refine ⟨(by unfold jv_r; omega), fun h9 => by omega, fun _ => ?_⟩
    exact lc_end (by first | omega | (simp (disch := omega) only [jv_up_e, jv_up_i, jv_up_k]; done) | (simp (disch := omega) only [jv_up_e, jv_up_i, jv_up_k]; omega)) (by unfold jv_r; omega) (fun h => absurd h (by omega)) (hI.fr (by omega) (by (intro i k hik; (try unfold f1 at hik); (try unfold f2 at hik); (try unfold f3 at hik); (try unfold f4 at hik); (try unfold f5 at hik); (try unfold f6 at hik); (try unfold f7 at hik); (try unfold f8 at hik); (try unfold jv_scr at hik); repeat rw [jv_up_n (by omega)])))
