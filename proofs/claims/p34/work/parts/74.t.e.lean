/-! clues, hours, solvers that join -/
theorem t_clue {x4 w : Int} {Q : Int → jv_Mem → Prop} {g : jv_Mem} (hI : iJ x4 g) (hw : 0 ≤ w ∧ w < g 3 6) (hN : g 14 4 = 60 → Q (-3) g)
    (hY : g 14 4 < 60 → ∀ g' : jv_Mem, (∀ i k, ¬ ((i = 14 ∧ k = 4) ∨ i = 15 ∨ i = 17 ∨ i = 134 ∨ (i = 126 ∧ k = 11)) → g' i k = g i k) → iJ x4 g' → g' 14 4 = g 14 4 + 1 → g' 17 (g 14 4) = -1 → g 16 (g 14 4) = 0 → Q (g 14 4) g') : wp_L_clue w Q g := by
  obtain ⟨hx, j1, j2, j3, j4, j5, j6, j7, j8⟩ := id hI
  obtain ⟨n1, n2, n3, -⟩ := id j2
  obtain ⟨c1, c2, c3, hc, hc2⟩ := id j4
  unfold wp_L_clue wp_X8_clue wp_X7_count wp_X0_count
  refine u_needIndex (by unfold jv_r; omega) hw ⟨(by unfold jv_r; omega), fun hl => ?_, fun hl => ⟨rfl, hN (by omega)⟩⟩
  refine ⟨⟨by omega, by omega⟩, ?_⟩
  rintro g1 e1
  have a1 : g1 14 4 = g 14 4 := by rw [e1, jv_up_n (by omega)]
  rw [a1]
  refine ⟨⟨by omega, by omega⟩, ?_⟩
  rintro g2 e2
  have a2 : g2 14 4 = g 14 4 := by rw [e2, jv_up_n (by omega)]; exact a1
  rw [a2]
  rintro g3 e3
  have a3 : g3 14 4 = g 14 4 + 1 := by rw [e3, jv_up_e rfl rfl]
  rw [a3, show g 14 4 + 1 - 1 = g 14 4 by omega]
  generalize hG : jv_up (jv_up g3 126 11 (g 14 4 + 1)) 134 (g 14 4) w = gG
  have lo : ∀ i k, i < 126 → gG i k = g3 i k := fun i k hi => by rw [← hG, jv_up_n (by omega), jv_up_n (by omega)]
  have f : ∀ i k, ¬ ((i = 14 ∧ k = 4) ∨ i = 15 ∨ i = 17 ∨ i = 134 ∨ (i = 126 ∧ k = 11)) → gG i k = g i k := fun i k z => by
    rw [← hG, jv_up_n (by omega), jv_up_n (by omega), e3, jv_up_n (by omega), e2, jv_up_n (by omega), e1, jv_up_n (by omega)]
  have q15 : ∀ k, gG 15 k = if k = g 14 4 then w else g 15 k := fun k => by
    rw [lo 15 k (by omega), e3, jv_up_n (by omega), e2, jv_up_n (by omega), e1]
    by_cases e : k = g 14 4
    · rw [jv_up_e rfl e, if_pos e]
    · rw [jv_up_n (fun h => e h.2), if_neg e]
  have q17 : ∀ k, gG 17 k = if k = g 14 4 then -1 else g 17 k := fun k => by
    rw [lo 17 k (by omega), e3, jv_up_n (by omega), e2]
    by_cases e : k = g 14 4
    · rw [jv_up_e rfl e, if_pos e]
    · rw [jv_up_n (fun h => e h.2), if_neg e, e1, jv_up_n (by omega)]
  have q134 : ∀ k, gG 134 k = if k = g 14 4 then w else g 134 k := fun k => by
    rw [← hG]
    by_cases e : k = g 14 4
    · rw [jv_up_e rfl e, if_pos e]
    · rw [jv_up_n (fun h => e h.2), if_neg e, jv_up_n (by omega), e3, jv_up_n (by omega), e2, jv_up_n (by omega), e1, jv_up_n (by omega)]
  have q11 : gG 126 11 = g 14 4 + 1 := by rw [← hG, jv_up_n (by omega), jv_up_e rfl rfl]
  have q4 : gG 14 4 = g 14 4 + 1 := by rw [lo 14 4 (by omega)]; exact a3
  have z := hc2 (g 14 4) c2 hl
  refine ⟨gG, fun i k h => lo i k h, hY hl gG f ?_ q4 (by rw [q17, if_pos rfl]) (by rw [z.1]; exact (z.2.2.2.2.2 (by omega)).1)⟩
  refine ⟨hx, j1.fr fun i k z => f i k (by unfold f1 at z; omega), j2.fr fun i k z => f i k (by unfold f2 at z; omega), j3.fr fun i k z => f i k (by unfold f3 at z; omega), ?_, j5.fr fun i k z => f i k (by unfold f5 at z; omega), j6.fr fun i k z => f i k (by unfold f6 at z; omega), j7.fr (by omega) fun i k z => f i k (by unfold f7 at z; omega), j8.fr (by omega) fun i k z => f i k (by unfold f8 at z; omega)⟩
  unfold iJ4
  rw [q11, q4]
  refine ⟨rfl, by omega, by omega, fun c c0 c1' => ?_, fun c c0 c1' => ?_⟩
  · rw [q15, q134, q17, f 136 c (by omega)]
    by_cases e : c = g 14 4
    · rw [if_pos e, if_pos e, if_pos e, e]
      have := (z.2.2.2.2.2 (by omega)).2
      omega
    · rw [if_neg e, if_neg e, if_neg e]; exact hc c c0 (by omega)
  · rw [f 16 c (by omega), f 135 c (by omega), f 136 c (by omega)]
    obtain ⟨h1, h2, h3, h4, h5, h6⟩ := hc2 c c0 c1'
    exact ⟨h1, h2, h3, h4, h5, fun h => h6 (by omega)⟩
theorem t_edit {x4 c : Int} {Q : Int → jv_Mem → Prop} {g : jv_Mem} (hI : iJ x4 g) (hc : 0 ≤ c ∧ c < g 14 4) (hN : g 16 c = 2 → Q (-3) g)
    (hY : g 16 c < 2 → ∀ g' : jv_Mem, (∀ i k, ¬ (i = 16 ∨ i = 135) → g' i k = g i k) → iJ x4 g' → g' 16 c = g 16 c + 1 → Q (g 16 c + 1) g') : wp_L_edit c 1 Q g := by
  obtain ⟨hx, j1, j2, j3, j4, j5, j6, j7, j8⟩ := id hI
  obtain ⟨c1, c2, c3, hc1, hc2⟩ := id j4
  have z := hc2 c hc.1 (by omega)
  unfold wp_L_edit wp_X8_edit wp_X0_count
  refine u_needIndex (by unfold jv_r; omega) hc ⟨by omega, (by unfold jv_r; omega), fun hl => ⟨(by unfold jv_r; omega), fun _ => ?_, fun h => absurd rfl h⟩, fun hl => ⟨(by unfold jv_r; omega), fun h => absurd h (by omega), fun _ => ⟨rfl, hN (by omega)⟩⟩⟩
  refine ⟨(by unfold jv_r; omega), fun h => absurd h (by omega), fun _ => ⟨by omega, ⟨by omega, ?_⟩⟩⟩
  rintro g1 e1
  refine ⟨by omega, ?_⟩
  have a1 : g1 16 c = g 16 c + 1 := by rw [e1, jv_up_e rfl rfl]
  rw [a1]
  have f : ∀ i k, ¬ (i = 16 ∨ i = 135) → jv_up g1 135 c (g 16 c + 1) i k = g i k := fun i k z => by rw [jv_up_n (by omega), e1, jv_up_n (by omega)]
  refine ⟨jv_up g1 135 c (g 16 c + 1), fun i k h => jv_up_n (by omega), hY hl _ f ?_ (by rw [jv_up_n (by omega)]; exact a1)⟩
  refine ⟨hx, j1.fr fun i k z => f i k (by unfold f1 at z; omega), j2.fr fun i k z => f i k (by unfold f2 at z; omega), j3.fr fun i k z => f i k (by unfold f3 at z; omega), ?_, j5.fr fun i k z => f i k (by unfold f5 at z; omega), j6.fr fun i k z => f i k (by unfold f6 at z; omega), j7.fr (by omega) fun i k z => f i k (by unfold f7 at z; omega), j8.fr (by omega) fun i k z => f i k (by unfold f8 at z; omega)⟩
  unfold iJ4
  rw [f 126 11 (by omega), f 14 4 (by omega)]
  refine ⟨c1, c2, c3, fun x x0 x1 => ?_, fun x x0 x1 => ?_⟩
  · rw [f 15 x (by omega), f 134 x (by omega), f 17 x (by omega), f 136 x (by omega)]; exact hc1 x x0 x1
  · obtain ⟨h1, h2, h3, h4, h5, h6⟩ := hc2 x x0 x1
    rw [f 136 x (by omega)]
    by_cases e : x = c
    · rw [jv_up_n (by omega), jv_up_e rfl e, e, a1]
      exact ⟨rfl, by omega, by omega, by rw [← e]; exact h4, by rw [← e]; exact h5, fun h => by omega⟩
    · rw [jv_up_n (by omega), jv_up_n (fun h => e h.2), e1, jv_up_n (fun h => e h.2), jv_up_n (by omega)]
      exact ⟨h1, h2, h3, h4, h5, h6⟩
theorem t_lastUsed {x4 c : Int} {Q : Int → jv_Mem → Prop} {g : jv_Mem} (hI : iJ x4 g) (hc : 0 ≤ c ∧ c < g 14 4) (hQ : -1 ≤ g 17 c → g 17 c ≤ 2000 → Q (g 17 c) g) : wp_X8_lastUsed c Q g := by
  obtain ⟨hx, j1, j2, j3, j4, -⟩ := hI
  obtain ⟨c1, c2, c3, hc1, hc2⟩ := id j4
  have z := hc1 c hc.1 hc.2
  have z2 := hc2 c hc.1 (by omega)
  unfold wp_X8_lastUsed wp_X0_count
  exact u_needIndex (by unfold jv_r; omega) hc ⟨by omega, hQ (by omega) (by omega)⟩
theorem t_pass {x4 h : Int} {Q : Int → jv_Mem → Prop} {g : jv_Mem} (hI : iJ x4 g) (hh : 1 ≤ h ∧ h ≤ 2000) (hm : g 0 11 + h ≤ 30000)
    (hQ : ∀ g' : jv_Mem, (∀ i k, ¬ ((i = 0 ∧ k = 11) ∨ (i = 126 ∧ k = 15)) → g' i k = g i k) → iJ x4 g' → g' 0 11 = g 0 11 + h → Q (g 0 11 + h) g') : wp_X8_pass h (fun r g1 => ∃ gG : jv_Mem, jv_sm g1 gG ∧ Q r gG) g := by
  obtain ⟨hx, j1, j2, j3, j4, j5, j6, j7, j8⟩ := id hI
  obtain ⟨e1, e2, e3⟩ := id j5
  unfold wp_X8_pass
  refine u_needRange (by unfold jv_r; omega) (by unfold jv_r; omega) hh ⟨(by unfold jv_r; omega), fun _ => ?_, fun h9 => absurd h9 (by omega)⟩
  rintro g1 eg
  have a1 : g1 0 11 = g 0 11 + h := by rw [eg, jv_up_e rfl rfl]
  rw [a1]
  have f : ∀ i k, ¬ ((i = 0 ∧ k = 11) ∨ (i = 126 ∧ k = 15)) → jv_up g1 126 15 (g 0 11 + h) i k = g i k := fun i k z => by rw [jv_up_n (by omega), eg, jv_up_n (by omega)]
  have b1 : jv_up g1 126 15 (g 0 11 + h) 0 11 = g 0 11 + h := by rw [jv_up_n (by omega)]; exact a1
  refine ⟨jv_up g1 126 15 (g 0 11 + h), fun i k h => jv_up_n (by omega), hQ _ f ?_ b1⟩
  refine ⟨hx, j1.fr fun i k z => f i k (by unfold f1 at z; omega), j2.fr fun i k z => f i k (by unfold f2 at z; omega), j3.fr fun i k z => f i k (by unfold f3 at z; omega), j4.fr fun i k z => f i k (by unfold f4 at z; omega), ?_, ?_, j7.fr (by omega) fun i k z => f i k (by unfold f7 at z; omega), j8.fr (by omega) fun i k z => f i k (by unfold f8 at z; omega)⟩
  · unfold iJ5
    rw [b1, jv_up_e rfl rfl]; omega
  · obtain ⟨a1', a2, a3, a4, a5⟩ := id j6
    unfold iJ6
    rw [b1, f 126 16 (by omega), f 0 9 (by omega)]
    refine ⟨a1', a2, a3, fun p p0 p1 => ?_, fun p p0 p1 => ?_⟩
    · obtain ⟨b1, b2, b3, b4, b5⟩ := a4 p p0 p1
      rw [f (30 + 3 * p) 2 (by omega), f 137 p (by omega)]
      refine ⟨b1, b2, by omega, fun c c0 c1 => ?_, fun c c0 c1 => ?_⟩
      · rw [f (30 + 3 * p + 1) c (by omega), f 138 _ (by omega)]; exact b4 c c0 c1
      · rw [f (30 + 3 * p + 2) c (by omega), f 139 _ (by omega)]; exact b5 c c0 c1
    · rw [f (30 + 3 * p) 3 (by omega), f (30 + 3 * p) 4 (by omega), f 140 p (by omega)]
      exact a5 p p0 p1
theorem t_addSolver {x4 a b : Int} {Q : Int → jv_Mem → Prop} {g : jv_Mem} (hI : iJ x4 g) (ha : -12 ≤ a ∧ a ≤ 14) (hb : 0 ≤ b ∧ b ≤ 1000) (hn : g 0 10 < 6)
    (hQ : ∀ ge : jv_Mem, (∀ i k, ¬ (i = 90 + 6 * g 0 10 + 1 + 1 ∨ i = 90 + 6 * g 0 10 + 1 + 2 ∨ (i = 90 + 6 * g 0 10 + 1 ∧ k = 2) ∨ (i = 90 + 6 * g 0 10 ∧ k = 3) ∨ (i = 0 ∧ k = 10) ∨ i = 142 ∨ i = 143 ∨ (i = 126 ∧ k = 22)) → ge i k = g i k) → iJ x4 ge → ge 0 10 = g 0 10 + 1 → iv_ks ge (g 0 10) = 0 → (iv_R g → iv_R ge) → Q (g 0 10) ge) : wp_X8_addSolver a b (fun r g1 => ∃ gG : jv_Mem, jv_sm g1 gG ∧ Q r gG) g := by
  obtain ⟨hx, j1, j2, j3, j4, j5, j6, j7, j8⟩ := id hI
  obtain ⟨n1, n2, n3, n4, n5⟩ := id j7
  obtain ⟨y1, y2, y3, y4, y5, y6⟩ := id j8
  unfold wp_X8_addSolver
  refine u_needRange (by unfold jv_r; omega) (by unfold jv_r; omega) ha (u_needRange (by unfold jv_r; omega) (by unfold jv_r; omega) hb ⟨(by unfold jv_r; omega), fun _ => ⟨⟨n2, hn⟩, ?_⟩, fun h => absurd h (by omega)⟩)
  unfold wp_X4_join
  refine u_begin (fun ga b1 b2 b3 b4 => ?_)
  rintro gb eb gc ec
  have qb : gb 0 10 = g 0 10 := by rw [eb, jv_up_n (by omega)]; exact b1 0 10 (by omega) (by omega) (by omega)
  rw [qb] at ec
  have qc : gc 0 10 = g 0 10 + 1 := by rw [ec, jv_up_e rfl rfl]
  rw [qc, show g 0 10 + 1 - 1 = g 0 10 by omega]
  have fr : ∀ i k, i ≠ 90 + 6 * g 0 10 + 1 + 1 → i ≠ 90 + 6 * g 0 10 + 1 + 2 → ¬ (i = 90 + 6 * g 0 10 + 1 ∧ k = 2) → ¬ (i = 90 + 6 * g 0 10 ∧ k = 3) → ¬ (i = 0 ∧ k = 10) → gc i k = g i k := fun i k x1 x2 x3 x4 x5 => by rw [ec, jv_up_n x5, eb, jv_up_n x4]; exact b1 i k x1 x2 x3
  have d3 : gc (90 + 6 * g 0 10) 3 = b := by rw [ec, jv_up_n (by omega), eb, jv_up_e rfl rfl]
  have d2 : gc (90 + 6 * g 0 10 + 1) 2 = a := by rw [ec, jv_up_n (by omega), eb, jv_up_n (by omega)]; exact b2
  have dr : ∀ k, 0 ≤ k → k < 180 → gc (90 + 6 * g 0 10 + 1 + 1) k = -1 := fun k k0 k1 => by rw [ec, jv_up_n (by omega), eb, jv_up_n (by omega)]; exact b3 k k0 k1
  have dc : ∀ k, 0 ≤ k → k < 1252 → gc (90 + 6 * g 0 10 + 1 + 2) k = 0 := fun k k0 k1 => by rw [ec, jv_up_n (by omega), eb, jv_up_n (by omega)]; exact b4 k k0 k1
  clear b1 b2 b3 b4 eb ec qb
  generalize hge : jv_up (jv_up (jv_up gc 142 (g 0 10) a) 143 (g 0 10) b) 126 22 (g 0 10 + 1) = ge
  have er : ∀ i k, ¬ (i = 142 ∨ i = 143 ∨ (i = 126 ∧ k = 22)) → ge i k = gc i k := fun i k z => by rw [← hge, jv_up_n (by omega), jv_up_n (by omega), jv_up_n (by omega)]
  have e142 : ∀ k, ge 142 k = if k = g 0 10 then a else g 142 k := fun k => by
    rw [← hge, jv_up_n (by omega), jv_up_n (by omega)]
    by_cases e : k = g 0 10
    · rw [jv_up_e rfl e, if_pos e]
    · rw [jv_up_n (fun hh => e hh.2), if_neg e]; exact fr 142 k (by omega) (by omega) (by omega) (by omega) (by omega)
  have e143 : ∀ k, ge 143 k = if k = g 0 10 then b else g 143 k := fun k => by
    rw [← hge, jv_up_n (by omega)]
    by_cases e : k = g 0 10
    · rw [jv_up_e rfl e, if_pos e]
    · rw [jv_up_n (fun hh => e hh.2), if_neg e, jv_up_n (by omega)]; exact fr 143 k (by omega) (by omega) (by omega) (by omega) (by omega)
  have e22 : ge 126 22 = g 0 10 + 1 := by rw [← hge, jv_up_e rfl rfl]
  have sm : jv_sm gc ge := fun i k h => er i k (by omega)
  clear hge
  have f : ∀ i k, ¬ (i = 90 + 6 * g 0 10 + 1 + 1 ∨ i = 90 + 6 * g 0 10 + 1 + 2 ∨ (i = 90 + 6 * g 0 10 + 1 ∧ k = 2) ∨ (i = 90 + 6 * g 0 10 ∧ k = 3) ∨ (i = 0 ∧ k = 10) ∨ i = 142 ∨ i = 143 ∨ (i = 126 ∧ k = 22)) → ge i k = g i k := fun i k z => by rw [er i k (by omega)]; exact fr i k (by omega) (by omega) (by omega) (by omega) (by omega)
  have en : ge 0 10 = g 0 10 + 1 := by rw [er 0 10 (by omega)]; exact qc
  have ec2 : ∀ k, 0 ≤ k → k < 1252 → ge (90 + 6 * g 0 10 + 1 + 2) k = 0 := fun k k0 k1 => by rw [er _ k (by omega)]; exact dc k k0 k1
  have ks : iv_ks ge (g 0 10) = 0 := by
    have hd := @iv_day_r a (g 0 11) j5.2.1 (by have := j5.2.2; omega) ha.1 ha.2
    unfold iv_ks iv_stk
    rw [er _ 2 (by omega), d2, f 0 11 (by omega)]
    generalize iv_day a (g 0 11) = d at hd
    rw [if_pos (ec2 d hd.1 hd.2)]
    cases hn : d.toNat with
    | zero => rfl
    | succ m =>
      simp only [iv_run]
      rw [if_pos (ec2 _ (by omega) (by omega))]
  have hR' : iv_R g → iv_R ge := fun hR s k s0 s1 k0 k1 => by
    rw [en] at s1
    rw [f 0 11 (by omega)]
    by_cases e : s = g 0 10
    · rw [e, er _ k (by omega), dr k k0 k1]
      have := j5.2.1
      omega
    · rw [f _ k (by omega)]; exact hR s k s0 (by omega) k0 k1
  refine ⟨ge, sm, hQ ge f ?_ en ks hR'⟩
  refine ⟨hx, j1.fr fun i k z => f i k (by unfold f1 at z; omega), j2.fr fun i k z => f i k (by unfold f2 at z; omega), j3.fr fun i k z => f i k (by unfold f3 at z; omega), j4.fr fun i k z => f i k (by unfold f4 at z; omega), j5.fr fun i k z => f i k (by unfold f5 at z; omega), j6.fr fun i k z => f i k (by unfold f6 at z; omega), ?_, ?_⟩
  · unfold iJ7
    rw [e22, en]
    refine ⟨rfl, by omega, by omega, fun s q0 q1 => ?_, fun s q0 q1 => ?_⟩
    · rw [e142, e143]
      by_cases e : s = g 0 10
      · obtain ⟨z1, z2, -⟩ := n5 s q0 (by omega)
        rw [if_pos e, if_pos e]
        subst e
        rw [er _ 3 (by omega), d3, er _ 2 (by omega), d2]
        refine ⟨rfl, hb.1, by omega, rfl, ha.1, ha.2, fun p c p0 p1 c0 c1 => ?_, fun d d0 d1 => ?_⟩
        · have := (z1 p c p0 p1 c0 c1).2.2 (by omega)
          rw [er _ _ (by omega), dr _ (by omega) (by omega), f 144 _ (by omega)]; omega
        · have := (z2 d d0 d1).2 (by omega)
          rw [ec2 _ (by omega) (by omega), f 147 _ (by omega)]; omega
      · obtain ⟨z1, z2, z3, z4, z5, z6, z7, z8⟩ := n4 s q0 (by omega)
        rw [if_neg e, if_neg e, f (90 + 6 * s) 3 (by omega), f (90 + 6 * s + 1) 2 (by omega)]
        refine ⟨z1, z2, by omega, z4, z5, z6, fun p c p0 p1 c0 c1 => ?_, fun d d0 d1 => ?_⟩
        · rw [f (90 + 6 * s + 1 + 1) _ (by omega), f 144 _ (by omega)]
          exact z7 p c p0 p1 c0 c1
        · rw [f (90 + 6 * s + 1 + 2) _ (by omega), f 147 _ (by omega)]
          exact z8 d d0 d1
    · obtain ⟨z1, z2, z3, z4⟩ := n5 s q0 q1
      refine ⟨fun p c p0 p1 c0 c1 => ?_, fun d d0 d1 => ?_, fun p p0 p1 => ?_, fun p c p0 p1 c0 c1 => ?_⟩
      · rw [f 144 _ (by omega)]
        have := z1 p c p0 p1 c0 c1
        exact ⟨this.1, this.2.1, fun h => this.2.2 (by omega)⟩
      · rw [f 147 _ (by omega)]
        have := z2 d d0 d1
        exact ⟨this.1, fun h => this.2 (by omega)⟩
      · rw [f (90 + 6 * s + 5) p (by omega), f 146 _ (by omega)]
        exact z3 p p0 p1
      · rw [f (90 + 6 * s + 4) _ (by omega), f 145 _ (by omega), f (30 + 3 * p) 4 (by omega)]
        obtain ⟨v1, v2, v3, v4⟩ := z4 p c p0 p1 c0 c1
        exact ⟨v1, v2, v3, fun h => v4 (by omega)⟩
  · have row : ∀ i, (22 ≤ i ∧ i ≤ 25) ∨ i = 137 → ge i = g i := fun i i0 => funext fun k => f i k (by omega)
    unfold iJ8
    rw [f 21 4 (by omega), en, f 0 9 (by omega), row 22 (by omega), row 23 (by omega), row 24 (by omega), row 25 (by omega), row 137 (by omega)]
    refine ⟨y1, by omega, by omega, fun e e0 e1 => ?_, fun p p0 p1 => ?_, fun s q0 q1 => ?_⟩
    · obtain ⟨z1, z2, z3, z4, z5⟩ := y4 e e0 e1
      exact ⟨z1, z2, z3, z4, by omega⟩
    · rw [f (30 + 3 * p) 4 (by omega)]; exact y5 p p0 p1
    · rw [e142]
      by_cases e : s = g 0 10
      · have nos : ∀ e' : Int, 0 ≤ e' → e' < ((g 21 4).toNat : Int) → g 22 e' ≠ s := fun e' f0 f1 => by
          have := (y4 e' f0 (by omega)).2.2.2.2
          omega
        rw [iv_rr_none nos, iv_rc_none nos]
        refine ⟨fun k k0 k1 => ?_, fun d d0 d1 => ?_⟩
        · rw [er _ k (by omega), e, dr k k0 k1]
        · rw [e, ec2 d d0 d1]
      · rw [if_neg e]
        obtain ⟨z1, z2⟩ := y6 s q0 (by omega)
        refine ⟨fun k k0 k1 => ?_, fun d d0 d1 => ?_⟩
        · rw [f _ k (by omega)]; exact z1 k k0 k1
        · rw [f _ d (by omega)]; exact z2 d d0 d1
