theorem iJ.pub {x4 : Int} {g g1 g2 g3 : jv_Mem} {rows ch : Int → Int} (hI : iJ x4 g) (ho : iv_out g rows ch 6) (hp : iv_PX g rows ch g1) (e2 : g2 = jv_up g1 148 0 (g 0 9)) (hM : iv_PM g g2 rows ch g3) : iJ (x4 + 5) g3 := by
  obtain ⟨hx, j1, j2, j3, j4, j5, j6, j7, j8⟩ := hI
  obtain ⟨p1, p2, p3, p4, p5, p6, p7⟩ := hp
  obtain ⟨q1, q2, q3, q4, q5, q6, q7, q8, q9, q10⟩ := hM
  obtain ⟨m1, m2, m3, m4, m5⟩ := id j4
  obtain ⟨b1, b2, b3⟩ := id j5
  obtain ⟨d1, d2, d3, d4, d5⟩ := id j6
  have hcs : iv_mp g ∧ iv_cz g rows ch 6 ∧ (iv_Fg g).2.1 ≠ -1 ∧ rows 0 = (iv_Fg g).2.2.1 ∧ rows 1 = (iv_Fg g).2.2.2.1 ∧ rows 2 = (iv_Fg g).2.2.2.2 := by
    rcases ho with ⟨h, _⟩ | ⟨h, _⟩ | ⟨_, _, hm, hF, q0, q1, q2, hcs, _⟩
    · exact absurd h (by omega)
    · exact absurd h (by omega)
    · exact ⟨hm, hcs, hF, q0, q1, q2⟩
  obtain ⟨hm, hcs, hF, r0, r1, r2⟩ := hcs
  have n20 := hm.1
  have hch := iv_cz_r m2 hcs
  have hrw : ∀ x, 0 ≤ x → x < 3 → 0 ≤ g 129 (rows x) ∧ g 129 (rows x) < 729 := fun x x0 x1 => by
    have er := iv_F_rJ j2 (g 132)
    have eF : iv_F (g 132) (g 129) (g 128) (g 130) (g 7) (g 3 6).toNat = iv_Fg g := rfl
    rw [eF] at er
    have hR := er.2.2.2.2 hF
    have hr : 0 ≤ rows x ∧ rows x < g 3 6 := by
      have hx : x = 0 ∨ x = 1 ∨ x = 2 := by omega
      rcases hx with e | e | e
      · rw [e, r0]; exact hR.1
      · rw [e, r1]; exact hR.2.1
      · rw [e, r2]; exact hR.2.2.1
    have hw := j2.2.2.2.1 _ hr.1 hr.2
    exact ⟨hw.1, hw.2.1⟩
  have lo : ∀ i k, i < 126 → g3 i k = g1 i k := fun i k hi => by
    rw [q1 i k (by omega) (by omega) (by omega) (by omega) (by omega) (by omega) (by omega) (by omega), e2, jv_up_n (by omega)]
  have sg : ∀ i k, (i ≤ 147 ∧ ¬ (i = 0 ∧ k = 9) ∧ i ≠ 10 ∧ i ≠ 12 ∧ i ≠ 13 ∧ i ≠ 17 ∧ i ≠ 18 ∧ ¬ (i = 30 + 3 * g 0 9 ∧ k = 2) ∧ i ≠ 30 + 3 * g 0 9 + 1 ∧ i ≠ 30 + 3 * g 0 9 + 2 ∧ ¬ (i = 126 ∧ (k = 8 ∨ k = 9 ∨ k = 16 ∨ k = 29)) ∧ i ≠ 131 ∧ i ≠ 133 ∧ i ≠ 136 ∧ i ≠ 137 ∧ i ≠ 138 ∧ i ≠ 139 ∧ i ≠ 141) → g3 i k = g i k := fun i k hi => by
    obtain ⟨h0, h1, h2, h3, h4, h5, h6, h7, h8, h9, h10, h11, h12, h13, h14, h15, h16, h17⟩ := hi
    rw [q1 i k h10 h11 h12 h13 h14 h15 h16 h17, e2, jv_up_n (by omega), p1 i k h1 h2 h3 h4 h5 h6 h7 h8 h9]
  have i9 : g3 0 9 = g 0 9 + 1 := by rw [lo 0 9 (by omega)]; exact p2
  have i10 : g3 0 10 = g 0 10 := sg 0 10 (by omega)
  have i11 : g3 0 11 = g 0 11 := sg 0 11 (by omega)
  refine ⟨by omega, j1.fr fun i k hik => sg i k (by unfold f1 at hik; omega), j2.fr fun i k hik => sg i k (by unfold f2 at hik; omega), j3.fr fun i k hik => sg i k (by unfold f3 at hik; omega), ?_, j5.fr fun i k hik => sg i k (by unfold f5 at hik; omega), ?_, j7.fr (by omega) fun i k hik => sg i k (by unfold f7 at hik; omega), ?_⟩
  · unfold iJ4
    rw [sg 126 11 (by omega), sg 14 4 (by omega)]
    refine ⟨m1, m2, m3, fun c c0 c1 => ?_, fun c c0 c1 => ?_⟩
    · obtain ⟨w1, w2, w3, w4⟩ := m4 c c0 c1
      rw [sg 15 c (by omega), sg 134 c (by omega)]
      refine ⟨w1, w2, w3, ?_⟩
      by_cases hx : ∃ e, 0 ≤ e ∧ e < 6 ∧ ch e = c
      · obtain ⟨e, e0, e1, ec⟩ := hx
        rw [← ec, lo 17 _ (by omega), p6 e e0 e1, q9 e e0 e1]
        omega
      · have hx' : ∀ e, 0 ≤ e → e < 6 → ch e ≠ c := fun e e0 e1 h => hx ⟨e, e0, e1, h⟩
        rw [lo 17 _ (by omega), p7 c hx', q10 c hx']
        exact w4
    · obtain ⟨v1, v2, v3, v4, v5, v6⟩ := m5 c c0 c1
      rw [sg 16 c (by omega), sg 135 c (by omega)]
      by_cases hx : ∃ e, 0 ≤ e ∧ e < 6 ∧ ch e = c
      · obtain ⟨e, e0, e1, ec⟩ := hx
        have hc := hch e e0 e1
        have h9 : g3 136 c = g 0 11 / 24 + 1 := by rw [← ec]; exact q9 e e0 e1
        rw [h9]
        exact ⟨v1, v2, v3, by omega, by omega, fun h => absurd h (by omega)⟩
      · have hx' : ∀ e, 0 ≤ e → e < 6 → ch e ≠ c := fun e e0 e1 h => hx ⟨e, e0, e1, h⟩
        rw [q10 c hx']
        exact ⟨v1, v2, v3, v4, v5, v6⟩
  · unfold iJ6
    rw [q3, i9, i11]
    refine ⟨rfl, by omega, by omega, fun p p0 p1' => ?_, fun p p0 p1' => ?_⟩
    · by_cases ep : p = g 0 9
      · rw [ep, lo _ 2 (by omega), p3, q4, if_pos rfl]
        refine ⟨rfl, b2, by omega, fun c c0 c1 => ?_, fun e e0 e1 => ?_⟩
        · rw [lo _ c (by omega), p4 c c0 c1, q5 c c0 c1]
          have hw := hrw (c / 3) (by omega) (by omega)
          exact ⟨rfl, iv_dg_r hw.1 hw.2⟩
        · rw [lo _ e (by omega), p5 e e0 e1, q7 e e0 e1]
          have hc := hch e e0 e1
          exact ⟨rfl, by omega, by omega⟩
      · obtain ⟨w1, w2, w3, w4, w5⟩ := d4 p p0 (by omega)
        rw [sg (30 + 3 * p) 2 (by omega), q4 p, if_neg ep]
        refine ⟨w1, w2, w3, fun c c0 c1 => ?_, fun e e0 e1 => ?_⟩
        · rw [sg (30 + 3 * p + 1) c (by omega), q6 _ (by omega)]; exact w4 c c0 c1
        · rw [sg (30 + 3 * p + 2) e (by omega), q8 _ (by omega)]; exact w5 e e0 e1
    · obtain ⟨w1, w2, w3, w4, w5⟩ := d5 p p0 p1'
      rw [sg (30 + 3 * p) 3 (by omega), sg (30 + 3 * p) 4 (by omega), sg 140 p (by omega)]
      exact ⟨w1, w2, w3, w4, fun h => w5 (by omega)⟩
  · obtain ⟨y1, y2, y3, y4, y5, y6⟩ := id j8
    have rr : ∀ i, (22 ≤ i ∧ i ≤ 25) ∨ i = 142 ∨ (90 ≤ i ∧ i < 126) → g3 i = g i := fun i hi => funext fun k => sg i k (by omega)
    unfold iJ8
    rw [sg 21 4 (by omega), i9, i10, rr 22 (by omega), rr 23 (by omega), rr 24 (by omega), rr 25 (by omega), rr 142 (by omega)]
    refine ⟨y1, y2, by omega, fun e e0 e1 => ?_, fun p p0 p1' => ?_, fun s s0 s1 => ⟨fun k k0 k1 => ?_, fun d x0 x1 => ?_⟩⟩
    · obtain ⟨w1, w2, w3, w4, w5⟩ := y4 e e0 e1
      exact ⟨w1, by omega, w3, w4, w5⟩
    · rw [sg (30 + 3 * p) 4 (by omega)]; exact y5 p p0 p1'
    · rw [rr (90 + 6 * s + 1 + 1) (by omega)]; exact (y6 s s0 s1).1 k k0 k1
    · have hc : iv_rc (g 22) (g 23) (g 24) (g 25) (g3 137) s (g 142 s) (g 21 4).toNat = iv_rc (g 22) (g 23) (g 24) (g 25) (g 137) s (g 142 s) (g 21 4).toNat := iv_rc_congr (fun e e0 e1 => ⟨rfl, rfl, rfl, rfl, by
        have w := (y4 e e0 (by omega)).2.1
        rw [q4, if_neg (by omega)]⟩)
      rw [hc, rr (90 + 6 * s + 1 + 2) (by omega)]
      exact (y6 s s0 s1).2 d x0 x1
