def iv_cost : Nat → Int
  | 0 => 5
  | n + 1 => if 40 < 2 * iv_cost n then 40 else 2 * iv_cost n
theorem iv_cost_r : ∀ n : Nat, 5 ≤ iv_cost n ∧ iv_cost n ≤ 40 := by
  intro n
  induction n with
  | zero => exact ⟨by decide, by decide⟩
  | succ n ih => simp only [iv_cost]; split <;> omega
theorem iv_cost_3 : ∀ n : Nat, iv_cost (n + 3) = 40 := by
  intro n
  induction n with
  | zero => decide
  | succ n ih =>
    show (if 40 < 2 * iv_cost (n + 3) then 40 else 2 * iv_cost (n + 3)) = 40
    rw [ih]; decide
theorem iv_cost_v {h : Int} (h0 : 0 ≤ h) : (h ≤ 2 → jv_shl 5 h = iv_cost h.toNat) ∧ (2 < h → 40 = iv_cost h.toNat) := by
  constructor
  · intro h2
    have hh : h = 0 ∨ h = 1 ∨ h = 2 := by omega
    rcases hh with e | e | e <;> subst e <;> decide +kernel
  · intro h2
    have e : h.toNat = (h.toNat - 3) + 3 := by omega
    rw [e, iv_cost_3]
theorem u_cost {t p : Int} {Q : Int → jv_Mem → Prop} {g : jv_Mem} (p0 : 0 ≤ p) (p1 : p < 20) (h0 : 0 ≤ g (t + 5) p) (h1 : g (t + 5) p ≤ 3000) (hQ : Q (iv_cost (g (t + 5) p).toNat) g) : wp_X4_cost t p Q g := by
  unfold wp_X4_cost
  refine ⟨fun n x2 x3 gl => gl = g ∧ 0 ≤ x3 ∧ x3 ≤ g (t + 5) p ∧ x2 = iv_cost x3.toNat ∧ n = (g (t + 5) p - x3).toNat, ⟨_, rfl, by omega, by omega, rfl, rfl⟩, ?_⟩
  rintro n x2 x3 gl ⟨rfl, a0, a1, a2, a3⟩
  have hc := iv_cost_r x3.toNat
  refine ⟨⟨p0, p1⟩, ⟨(by unfold jv_r; omega), (by unfold jv_r; omega)⟩, fun h => ?_, fun h => ⟨(by unfold jv_r; omega), ?_⟩⟩
  · have e : x3 = gl (t + 5) p := by omega
    rw [a2, e]; exact hQ
  · intro v2 e2 v3 e3
    refine ⟨(gl (t + 5) p - v3).toNat, by omega, rfl, by omega, by omega, ?_, rfl⟩
    have e : v3.toNat = x3.toNat + 1 := by omega
    rw [e, e2, a2]; rfl
theorem u_helpM {s p c : Int} {Q : Int → jv_Mem → Prop} {g : jv_Mem} (ra : jv_r s) (rb : jv_r p) (rc : jv_r c) (n : 0 ≤ g 126 22 ∧ g 126 22 ≤ 6) (m : 0 ≤ g 126 16 ∧ g 126 16 ≤ 20)
    (hf : (0 ≤ s ∧ s < g 126 22) → (0 ≤ p ∧ p < g 126 16) → (0 ≤ c ∧ c < 9) → 0 ≤ g 140 p ∧ g 140 p < 64 ∧ jv_r (g 144 (((180 * s) + (9 * p)) + c)) ∧ jv_r (g 143 s) ∧ 0 ≤ g 146 ((20 * s) + p) ∧ g 146 ((20 * s) + p) ≤ 3000)
    (h1 : ¬ ((0 ≤ s ∧ s < g 126 22) ∧ (0 ≤ p ∧ p < g 126 16) ∧ (0 ≤ c ∧ c < 9)) → Q 0 (jv_up g 126 29 1))
    (h2 : (0 ≤ s ∧ s < g 126 22) → (0 ≤ p ∧ p < g 126 16) → (0 ≤ c ∧ c < 9) → ¬ (g 144 (((180 * s) + (9 * p)) + c) ≤ 0 ∧ iv_bit (iv_op (g 140 p)) c = 0) → Q 0 (jv_up g 126 29 2))
    (h3 : (0 ≤ s ∧ s < g 126 22) → (0 ≤ p ∧ p < g 126 16) → (0 ≤ c ∧ c < 9) → g 144 (((180 * s) + (9 * p)) + c) ≤ 0 → iv_bit (iv_op (g 140 p)) c = 0 → g 143 s < iv_cost (g 146 ((20 * s) + p)).toNat → Q 0 (jv_up (jv_up g 126 29 0) 126 29 2))
    (h4 : (0 ≤ s ∧ s < g 126 22) → (0 ≤ p ∧ p < g 126 16) → (0 ≤ c ∧ c < 9) → g 144 (((180 * s) + (9 * p)) + c) ≤ 0 → iv_bit (iv_op (g 140 p)) c = 0 → iv_cost (g 146 ((20 * s) + p)).toNat ≤ g 143 s → wp_X9_counts s p (fun g_160 => (((0 : Int) ≤ (9 * p) + c ∧ (9 * p) + c < (180 : Int)) ∧ Q (g_160 138 ((9 * p) + c)) g_160)) (jv_up (jv_up (jv_up (jv_up (jv_up g 126 29 0) 143 s (g 143 s - iv_cost (g 146 ((20 * s) + p)).toNat)) 146 ((20 * s) + p) (g 146 ((20 * s) + p) + 1)) 145 (((180 * s) + (9 * p)) + c) (iv_cost (g 146 ((20 * s) + p)).toNat)) 144 (((180 * s) + (9 * p)) + c) (g 126 15 + 1))) : wp_X9_help s p c Q g := by
  unfold wp_X9_help
  refine u_isCell ra rb rc n m (fun hs hp hc => ⟨(by unfold jv_r; omega), fun _ => ?_, fun h9 => by omega⟩) (fun h => ⟨(by unfold jv_r; omega), fun h9 => absurd rfl h9, fun _ => ?_⟩)
  · obtain ⟨f1, f2, f3, f4, f5, f6⟩ := hf hs hp hc
    refine u_isOver hs.1 (by omega) hp.1 (by omega) hc.1 hc.2 f1 f2 f3 (fun h5 h6 => ⟨(by unfold jv_r; omega), fun _ => ?_, fun h9 => absurd rfl h9⟩) (fun h5 => ⟨(by unfold jv_r; omega), fun h9 => by omega, fun _ => ?_⟩)
    · rintro g1 e1
      have e29 : g1 126 29 = 0 := by rw [e1, jv_up_e rfl rfl]
      have e146 : g1 146 ((20 * s) + p) = g 146 ((20 * s) + p) := by rw [e1, jv_up_n (by omega)]
      have e143 : g1 143 s = g 143 s := by rw [e1, jv_up_n (by omega)]
      have e15 : g1 126 15 = g 126 15 := by rw [e1, jv_up_n (by omega)]
      rw [e29]
      have hcr := iv_cost_r (g 146 ((20 * s) + p)).toNat
      have hcv := iv_cost_v f5
      have h3 := h3 hs hp hc h5 h6
      have h4 := h4 hs hp hc h5 h6
      rw [← e1] at h3 h4
      have body : ∀ y : Int, y = iv_cost (g 146 ((20 * s) + p)).toNat → wB_X9_help_70 s p c Q y g1 := by
        rintro y ey
        rw [← ey] at h3 h4 hcr
        unfold wB_X9_help_70
        rw [e143]
        refine ⟨by omega, ⟨f4, (by unfold jv_r; omega)⟩, fun hle => ⟨by omega, by omega, ?_⟩, fun hlt => ?_⟩
        · rintro g2 e2
          have x146 : g2 146 ((20 * s) + p) = g 146 ((20 * s) + p) := by rw [e2, jv_up_n (by omega)]; exact e146
          refine ⟨by omega, by omega, ?_⟩
          rintro g3 e3
          rw [x146] at e3
          refine ⟨by omega, ?_⟩
          rintro g4 e4
          have x15 : g4 126 15 = g 126 15 := by rw [e4, jv_up_n (by omega), e3, jv_up_n (by omega), e2, jv_up_n (by omega)]; exact e15
          rw [x15]
          refine ⟨by omega, ?_⟩
          rintro g5 e5
          rw [e5, e4, e3, e2]
          exact h4 hle
        · unfold wp_X9_fails
          rintro g2 rfl
          exact h3 hlt
      refine ⟨(by unfold jv_r; omega), fun _ => ⟨by omega, ?_⟩, fun h9 => by omega⟩
      rintro v4 e4
      rw [e146] at e4
      rw [e4]
      exact ⟨(by unfold jv_r; omega), fun hle => body _ (hcv.1 hle), fun hgt => body _ (hcv.2 hgt)⟩
    · rintro g1 rfl
      have e : jv_up g 126 29 2 126 29 = 2 := jv_up_e rfl rfl
      rw [e]
      exact ⟨(by unfold jv_r; omega), fun h9 => by omega, fun _ => h2 hs hp hc h5⟩
  · rintro g1 rfl
    have e : jv_up g 126 29 1 126 29 = 1 := jv_up_e rfl rfl
    rw [e]
    exact ⟨(by unfold jv_r; omega), fun h9 => by omega, fun _ => h1 h⟩
theorem cs_23 {L : Nat} {xs : Nat → Int32} (hL : L ≤ 2560) : ∀ (x4 : Int) (g : jv_Mem), 0 ≤ x4 → x4 + 4 < ((L : Nat) : Int) → iJ x4 g → wp_LC_23 xs L x4 (iJ (x4 + 5)) g := by
  intro x4 g h0 h4 hI
  obtain ⟨hx, j1, j2, j3, j4, j5, j6, j7, j8⟩ := id hI
  have ra := jv_sx_r xs (x4 + 1)
  have rb := jv_sx_r xs (x4 + 2)
  have rc := jv_sx_r xs (x4 + 3)
  unfold wp_LC_23 wp_L_help wp_X8_help
  generalize jv_sx xs (x4 + 1) = s at ra ⊢
  generalize jv_sx xs (x4 + 2) = p at rb ⊢
  generalize jv_sx xs (x4 + 3) = c at rc ⊢
  obtain ⟨n1, n2, n3, n4, n5⟩ := id j7
  obtain ⟨m1, m2, m3, m4, m5⟩ := id j6
  obtain ⟨y1, y2, y3, -⟩ := id j8
  have j52 := j5.2.1
  have j53 := j5.2.2
  have facts : ∀ gm : jv_Mem, (∀ i k, 126 ≤ i → i ≤ 147 → gm i k = g i k) → ((0 ≤ gm 126 22 ∧ gm 126 22 ≤ 6) ∧ (0 ≤ gm 126 16 ∧ gm 126 16 ≤ 20) ∧ ((0 ≤ s ∧ s < gm 126 22) → (0 ≤ p ∧ p < gm 126 16) → (0 ≤ c ∧ c < 9) → 0 ≤ gm 140 p ∧ gm 140 p < 64 ∧ jv_r (gm 144 (((180 * s) + (9 * p)) + c)) ∧ jv_r (gm 143 s) ∧ 0 ≤ gm 146 ((20 * s) + p) ∧ gm 146 ((20 * s) + p) ≤ 3000)) := by
    intro gm hg
    rw [hg 126 22 (by omega) (by omega), hg 126 16 (by omega) (by omega), hg 140 p (by omega) (by omega), hg 144 _ (by omega) (by omega), hg 143 _ (by omega) (by omega), hg 146 _ (by omega) (by omega)]
    refine ⟨by omega, by omega, fun hs hp hc => ?_⟩
    have k := ex_s j7 hs.1 (by omega)
    have l := ex_p j6 hp.1 (by omega)
    have k9 := k.2.2.2.2.2.2.2.2 p c hp.1 l.1 hc.1 hc.2
    have k3 := k.2.2.1
    have k4 := k.2.2.2.1
    have hh := (n5 s hs.1 k.1).2.2.1 p hp.1 l.1
    exact ⟨l.2.2.2.2.2.1, l.2.2.2.2.2.2.1, by unfold jv_r; omega, by unfold jv_r; omega, hh.2.1, by omega⟩
  obtain ⟨f1g, f2g, f3g⟩ := facts g (fun _ _ _ _ => rfl)
  refine ⟨by omega, by omega, by omega, ?_⟩
  refine u_needCellOf ra rb rc (by unfold jv_r; omega) (by unfold jv_r; omega) (fun hs hp hc => ?_) (fun h => Or.inl ⟨rfl, by omega, by omega, by omega, ?_⟩)
  · have k := ex_s j7 hs.1 hs.2
    obtain ⟨k1, k2, k3, k4, k5, k6, k7, k8, k9⟩ := k
    have l := ex_p j6 hp.1 hp.2
    obtain ⟨l1, l2, l3, l4, l5, l6, l7, l8, l9⟩ := l
    have kc := k9 p c hp.1 l1 hc.1 hc.2
    have lc := (m4 p hp.1 (by omega)).2.2.2.1 c hc.1 hc.2
    obtain ⟨hh1, hh2, hh3⟩ := (n5 s hs.1 k1).2.2.1 p hp.1 l1
    have hcr := iv_cost_r (g 146 ((20 * s) + p)).toNat
    refine u_needUnfinished hs.1 k1 hp.1 l1 hc.1 hc.2 (by unfold jv_r; omega) (fun hr hb => ⟨⟨hs.1, k1⟩, ?_⟩) (fun hr => Or.inr ⟨rfl, by omega, by omega, by omega, ?_⟩)
    · unfold wp_X4_canPayHelp
      refine u_cost hp.1 l1 (by omega) (by omega) ?_
      rw [hh1, k2]
      refine ⟨⟨(by unfold jv_r; omega), (by unfold jv_r; omega)⟩, fun hlt => ⟨(by unfold jv_r; omega), fun h9 => absurd rfl h9, fun _ => Or.inr ⟨rfl, by omega, by omega, by omega, ?_⟩⟩, fun hle => ⟨(by unfold jv_r; omega), fun _ => ⟨⟨hs.1, k1⟩, ?_⟩, fun h9 => by omega⟩⟩
      · refine u_helpM ra rb rc f1g f2g f3g (fun h => absurd ⟨by omega, by omega, hc⟩ h) (fun _ _ _ h => absurd ⟨by omega, by rw [← l5]; exact hb⟩ h) (fun _ _ _ _ _ _ => ?_) (fun _ _ _ _ _ h => by omega)
        exact lc_end (by first | omega | (simp (disch := omega) only [jv_up_e, jv_up_i, jv_up_k]; done) | (simp (disch := omega) only [jv_up_e, jv_up_i, jv_up_k]; omega)) (by unfold jv_r; omega) (fun h9 => absurd h9 (by omega)) (hI.fr (by omega) (by (intro i k hik; (try unfold f1 at hik); (try unfold f2 at hik); (try unfold f3 at hik); (try unfold f4 at hik); (try unfold f5 at hik); (try unfold f6 at hik); (try unfold f7 at hik); (try unfold f8 at hik); (try unfold jv_scr at hik); repeat rw [jv_up_n (by omega)])))
      · unfold wp_X4_payHelp
        refine u_cost hp.1 l1 (by omega) (by omega) ?_
        rw [hh1, k2]
        generalize hw : iv_cost (g 146 ((20 * s) + p)).toNat = w at hcr hle ⊢
        rintro g1 e1
        refine ⟨by omega, ?_⟩
        rintro g2 e2
        have x5 : g2 (90 + 6 * s + 5) p = g 146 ((20 * s) + p) := by rw [e2, jv_up_n (by omega), e1, jv_up_n (by omega)]; exact hh1
        rw [x5]
        refine ⟨⟨hp.1, l1⟩, ⟨hp.1, l1⟩, ?_⟩
        rintro g3 e3
        have p0 : ∀ i k, ¬ (i = 90 + 6 * s ∧ k = 3) → i ≠ 90 + 6 * s + 4 → i ≠ 90 + 6 * s + 5 → g3 i k = g i k := fun i k x1 x2 x3 => by rw [e3, jv_up_n (by omega), e2, jv_up_n (by omega), e1, jv_up_n x1]
        have p3 : g3 (90 + 6 * s) 3 = g 143 s - w := by rw [e3, jv_up_n (by omega), e2, jv_up_n (by omega), e1, jv_up_e rfl rfl]
        have p4 : ∀ k, g3 (90 + 6 * s + 4) k = if k = p * 9 + c then w else g (90 + 6 * s + 4) k := fun k => by
          rw [e3, jv_up_n (by omega), e2]
          by_cases e : k = p * 9 + c
          · rw [jv_up_e rfl e, if_pos e]
          · rw [jv_up_n (fun hh => e hh.2), if_neg e, e1, jv_up_n (by omega)]
        have p5 : ∀ k, g3 (90 + 6 * s + 5) k = if k = p then g 146 ((20 * s) + p) + 1 else g (90 + 6 * s + 5) k := fun k => by
          rw [e3]
          by_cases e : k = p
          · rw [jv_up_e rfl e, if_pos e]
          · rw [jv_up_n (fun hh => e hh.2), if_neg e, e2, jv_up_n (by omega), e1, jv_up_n (by omega)]
        clear e1 e2 e3 x5
        have s21 := p0 21 4 (by omega) (by omega) (by omega)
        have s11 := p0 0 11 (by omega) (by omega) (by omega)
        have s30 := p0 (30 + 3 * p) 4 (by omega) (by omega) (by omega)
        have s32 := p0 (30 + 3 * p) 2 (by omega) (by omega) (by omega)
        have s91 := p0 (90 + 6 * s + 1) 2 (by omega) (by omega) (by omega)
        have s92 : ∀ k, g3 (90 + 6 * s + 1 + 1) k = g (90 + 6 * s + 1 + 1) k := fun k => p0 _ k (by omega) (by omega) (by omega)
        have s93 : ∀ k, g3 (90 + 6 * s + 1 + 2) k = g (90 + 6 * s + 1 + 2) k := fun k => p0 _ k (by omega) (by omega) (by omega)
        refine u_becomeRight (by omega) (by omega) hs.1 k1 hp.1 l1 hc.1 hc.2 (by omega) (by omega) (by omega) (by omega) (by omega) (by omega) (by omega) (by omega) (fun x x0 x1 => by rw [s92]; exact (k9 p x hp.1 l1 x0 x1).2) (fun ga b1 b2 b3 b4 b5 b6 b7 b8 => ⟨⟨hp.1, l1⟩, hc, ?_⟩)
        rw [s21] at b2 b3 b4 b5 b6
        rw [s11] at b6 b7
        rw [s30, s32, s91] at b8
        have b7' : ∀ k, ga (90 + 6 * s + 1 + 1) k = if k = p * 9 + c then g 0 11 else g (90 + 6 * s + 1 + 1) k := fun k => by rw [b7, s92]
        have b8' : ∀ d, ga (90 + 6 * s + 1 + 2) d = iv_sc (iv_sl (ga (90 + 6 * s + 1 + 1)) p (g (30 + 3 * p) 4) (g (30 + 3 * p) 2)) (g (90 + 6 * s + 1) 2) d (g (90 + 6 * s + 1 + 2) d) := fun d => by rw [b8, s93]
        have b3' : ∀ k, ga 22 k = if k = g 21 4 then s else g 22 k := fun k => by rw [b3, p0 22 k (by omega) (by omega) (by omega)]
        have b4' : ∀ k, ga 23 k = if k = g 21 4 then p else g 23 k := fun k => by rw [b4, p0 23 k (by omega) (by omega) (by omega)]
        have b5' : ∀ k, ga 24 k = if k = g 21 4 then c else g 24 k := fun k => by rw [b5, p0 24 k (by omega) (by omega) (by omega)]
        have b6' : ∀ k, ga 25 k = if k = g 21 4 then g 0 11 else g 25 k := fun k => by rw [b6, p0 25 k (by omega) (by omega) (by omega)]
        have qlet : ga (30 + 3 * p + 1) c = g 138 ((9 * p) + c) := by rw [b1 _ c (by omega) (by omega) (by omega) (by omega) (by omega) (by omega) (by omega), p0 _ c (by omega) (by omega) (by omega)]; exact lc.1
        dsimp only
        rw [qlet]
        refine ⟨(by unfold jv_r; omega), by omega, ?_⟩
        rintro gb eb
        have fm : ∀ i k, 126 ≤ i → i ≤ 147 → gb i k = g i k := fun i k i0 i1 => by rw [eb, jv_up_n (by omega), b1 i k (by omega) (by omega) (by omega) (by omega) (by omega) (by omega) (by omega)]; exact p0 i k (by omega) (by omega) (by omega)
        obtain ⟨f1, f2, f3⟩ := facts gb fm
        refine ⟨by omega, by omega, by omega, u_helpM ra rb rc f1 f2 f3 (fun h => ?_) (fun _ _ _ h => ?_) (fun _ _ _ _ _ h => ?_) (fun _ _ _ _ _ _ => ?_)⟩
        · exfalso
          rw [fm 126 22 (by omega) (by omega), fm 126 16 (by omega) (by omega)] at h
          exact h ⟨by omega, by omega, hc⟩
        · exfalso
          rw [fm 144 _ (by omega) (by omega), fm 140 p (by omega) (by omega), ← l5] at h
          exact h ⟨by omega, hb⟩
        · exfalso
          rw [fm 143 _ (by omega) (by omega), fm 146 _ (by omega) (by omega), hw] at h
          omega
        · rw [fm 143 s (by omega) (by omega), fm 146 ((20 * s) + p) (by omega) (by omega), hw]
          have g15 : gb 126 15 = g 0 11 := by rw [fm 126 15 (by omega) (by omega)]; exact j5.1
          rw [g15]
          generalize hgc : jv_up (jv_up (jv_up (jv_up (jv_up gb 126 29 0) 143 s (g 143 s - w)) 146 ((20 * s) + p) (g 146 ((20 * s) + p) + 1)) 145 (((180 * s) + (9 * p)) + c) w) 144 (((180 * s) + (9 * p)) + c) (g 0 11 + 1) = gc
          have gc1 : ∀ i k, ¬ (143 ≤ i ∧ i ≤ 146) → ¬ (i = 126 ∧ k = 29) → gc i k = gb i k := fun i k p1 p2 => by rw [← hgc, jv_up_n (by omega), jv_up_n (by omega), jv_up_n (by omega), jv_up_n (by omega), jv_up_n p2]
          have gc144 : ∀ k, gc 144 k = if k = ((180 * s) + (9 * p)) + c then g 0 11 + 1 else g 144 k := fun k => by
            rw [← hgc]
            by_cases e : k = ((180 * s) + (9 * p)) + c
            · rw [jv_up_e rfl e, if_pos e]
            · rw [jv_up_n (fun hh => e hh.2), if_neg e, jv_up_n (by omega), jv_up_n (by omega), jv_up_n (by omega), jv_up_n (by omega)]; exact fm 144 k (by omega) (by omega)
          have gc145 : ∀ k, gc 145 k = if k = ((180 * s) + (9 * p)) + c then w else g 145 k := fun k => by
            rw [← hgc, jv_up_n (by omega)]
            by_cases e : k = ((180 * s) + (9 * p)) + c
            · rw [jv_up_e rfl e, if_pos e]
            · rw [jv_up_n (fun hh => e hh.2), if_neg e, jv_up_n (by omega), jv_up_n (by omega), jv_up_n (by omega)]; exact fm 145 k (by omega) (by omega)
          have gc146 : ∀ k, gc 146 k = if k = (20 * s) + p then g 146 ((20 * s) + p) + 1 else g 146 k := fun k => by
            rw [← hgc, jv_up_n (by omega), jv_up_n (by omega)]
            by_cases e : k = (20 * s) + p
            · rw [jv_up_e rfl e, if_pos e]
            · rw [jv_up_n (fun hh => e hh.2), if_neg e, jv_up_n (by omega), jv_up_n (by omega)]; exact fm 146 k (by omega) (by omega)
          have gc143 : ∀ k, gc 143 k = if k = s then g 143 s - w else g 143 k := fun k => by
            rw [← hgc, jv_up_n (by omega), jv_up_n (by omega), jv_up_n (by omega)]
            by_cases e : k = s
            · rw [jv_up_e rfl e, if_pos e]
            · rw [jv_up_n (fun hh => e hh.2), if_neg e, jv_up_n (by omega)]; exact fm 143 k (by omega) (by omega)
          have gc29 : gc 126 29 = 0 := by rw [← hgc, jv_up_n (by omega), jv_up_n (by omega), jv_up_n (by omega), jv_up_n (by omega), jv_up_e rfl rfl]
          clear hgc
          have c140 : gc 140 p = g 140 p := by rw [gc1 140 p (by omega) (by omega)]; exact fm 140 p (by omega) (by omega)
          have c142 : gc 142 s = g 142 s := by rw [gc1 142 s (by omega) (by omega)]; exact fm 142 s (by omega) (by omega)
          have c137 : gc 137 p = g 137 p := by rw [gc1 137 p (by omega) (by omega)]; exact fm 137 p (by omega) (by omega)
          have RR : ∀ x, 0 ≤ x → x < 9 → -1 ≤ ga (90 + 6 * s + 1 + 1) (p * 9 + x) ∧ ga (90 + 6 * s + 1 + 1) (p * 9 + x) ≤ 30001 := fun x x0 x1 => by
            rw [b7']
            have := (k9 p x hp.1 l1 x0 x1).2
            split <;> omega
          refine u_countsM (R := ga (90 + 6 * s + 1 + 1)) hs.1 k1 hp.1 l1 (by rw [c140]; exact l6) (by rw [c140]; exact l7) (by rw [c142]; exact k6) (by rw [c142]; exact k7) (fun x x0 x1 => ?_) RR (by rw [c137]; omega) (fun gd d1 d2 => ⟨by omega, ?_⟩)
          · rw [gc144, b7']
            by_cases e : x = c
            · rw [if_pos (by omega), if_pos (by omega)]; omega
            · rw [if_neg (by omega), if_neg (by omega)]; exact (k9 p x hp.1 l1 x0 x1).1
          · rw [c140, c137, c142, ← l5, ← l2] at d2
            have c147 : ∀ k, gc 147 k = g 147 k := fun k => by rw [gc1 147 k (by omega) (by omega)]; exact fm 147 k (by omega) (by omega)
            have dfar : ∀ i k, 126 ≤ i → i ≤ 142 → ¬ (i = 126 ∧ k = 29) → gd i k = g i k := fun i k i0 i1 i4 => by rw [d1 i (by omega), gc1 i k (by omega) i4]; exact fm i k i0 (by omega)
            have dga : ∀ i k, i < 126 → gd i k = ga i k := fun i k i0 => by rw [d1 i (by omega), gc1 i k (by omega) (by omega), eb, jv_up_n (by omega)]
            have dg3 : ∀ i k, i < 126 → i ≠ 22 → i ≠ 23 → i ≠ 24 → i ≠ 25 → ¬ (i = 21 ∧ k = 4) → i ≠ 90 + 6 * s + 1 + 1 → i ≠ 90 + 6 * s + 1 + 2 → gd i k = g3 i k := fun i k i0 x1 x2 x3 x4 x5 x6 x7 => by rw [dga i k i0]; exact b1 i k x1 x2 x3 x4 x5 x6 x7
            have dg : ∀ i k, i < 126 → i ≠ 22 → i ≠ 23 → i ≠ 24 → i ≠ 25 → ¬ (i = 21 ∧ k = 4) → i ≠ 90 + 6 * s + 1 + 1 → i ≠ 90 + 6 * s + 1 + 2 → ¬ (i = 90 + 6 * s ∧ k = 3) → i ≠ 90 + 6 * s + 4 → i ≠ 90 + 6 * s + 5 → gd i k = g i k := fun i k i0 x1 x2 x3 x4 x5 x6 x7 x8 x9 x10 => by rw [dg3 i k i0 x1 x2 x3 x4 x5 x6 x7]; exact p0 i k x8 x9 x10
            have d29 : gd 126 29 = 0 := by rw [d1 126 (by omega)]; exact gc29
            have d148 : gd 148 0 = g 138 ((9 * p) + c) := by rw [d1 148 (by omega), gc1 148 0 (by omega) (by omega), eb, jv_up_e rfl rfl]
            have gdr : gd (90 + 6 * s + 1 + 1) = ga (90 + 6 * s + 1 + 1) := funext fun k => dga _ k (by omega)
            have J78 : iJ7 (x4 + 5) gd ∧ iJ8 (x4 + 5) gd := by
              refine step_right (s := s) (p := p) (c := c) j5 j6 j7 j8 (by omega) hs.1 hs.2 hp.1 hp.2 hc.1 hc.2 (fun k => dg 0 k (by omega) (by omega) (by omega) (by omega) (by omega) (by omega) (by omega) (by omega) (by omega) (by omega) (by omega)) (dfar 126 22 (by omega) (by omega) (by omega)) (fun i k i0 i1 => dg i k (by omega) (by omega) (by omega) (by omega) (by omega) (by omega) (by omega) (by omega) (by omega) (by omega) (by omega)) (fun i k hi => dfar i k (by omega) (by omega) (by omega)) (fun s' k q0 q1 => dg _ k (by omega) (by omega) (by omega) (by omega) (by omega) (by omega) (by omega) (by omega) (by omega) (by omega) (by omega)) (fun s' k q0 q1 q2 => ⟨dg _ k (by omega) (by omega) (by omega) (by omega) (by omega) (by omega) (by omega) (by omega) (by omega) (by omega) (by omega), dg _ k (by omega) (by omega) (by omega) (by omega) (by omega) (by omega) (by omega) (by omega) (by omega) (by omega) (by omega)⟩) (by rw [dga 21 4 (by omega)]; exact b2) (fun k => by rw [dga 22 k (by omega)]; exact b3' k) (fun k => by rw [dga 23 k (by omega)]; exact b4' k) (fun k => by rw [dga 24 k (by omega)]; exact b5' k) (fun k => by rw [dga 25 k (by omega)]; exact b6' k) (fun k => by rw [gdr]; exact b7' k) (fun k => by rw [gdr, dga _ k (by omega)]; exact b8' k) (fun k => by rw [d1 144 (by omega)]; exact gc144 k) (fun k => by rw [gdr, d2 k, c147]) (fun s' q0 q1 => ?_) (fun s' q q0 q1 w0 w1 => ?_) (fun s' q x q0 q1 w0 w1 w2 w3 => ?_)
              · obtain ⟨b1', b2', b3', -⟩ := n4 s' q0 q1
                rw [d1 143 (by omega), gc143]
                by_cases e : s' = s
                · rw [if_pos e, e, dg3 _ 3 (by omega) (by omega) (by omega) (by omega) (by omega) (by omega) (by omega) (by omega), p3]
                  exact ⟨rfl, by omega, by omega⟩
                · rw [if_neg e, dg (90 + 6 * s') 3 (by omega) (by omega) (by omega) (by omega) (by omega) (by omega) (by omega) (by omega) (by omega) (by omega) (by omega)]
                  exact ⟨b1', b2', by omega⟩
              · have bb := (n5 s' q0 q1).2.2.1 q w0 w1
                rw [d1 146 (by omega), gc146]
                by_cases e : s' = s
                · rw [e, dg3 (90 + 6 * s + 5) q (by omega) (by omega) (by omega) (by omega) (by omega) (by omega) (by omega) (by omega), p5]
                  rw [e] at bb
                  by_cases e2 : q = p
                  · rw [if_pos e2, if_pos (by omega)]; omega
                  · rw [if_neg e2, if_neg (by omega)]; omega
                · rw [if_neg (by omega), dg (90 + 6 * s' + 5) q (by omega) (by omega) (by omega) (by omega) (by omega) (by omega) (by omega) (by omega) (by omega) (by omega) (by omega)]
                  omega
              · have bb := (n5 s' q0 q1).2.2.2 q x w0 w1 w2 w3
                rw [d1 145 (by omega), gc145]
                by_cases e : s' = s
                · rw [e, dg3 (90 + 6 * s + 4) _ (by omega) (by omega) (by omega) (by omega) (by omega) (by omega) (by omega) (by omega), p4]
                  rw [e] at bb
                  by_cases e2 : q * 9 + x = p * 9 + c
                  · have e3 : q = p := by omega
                    have e4 : x = c := by omega
                    rw [if_pos e2, if_pos (by omega), e3, e4, if_pos hb]
                    exact ⟨by omega, by omega, rfl, fun h9 => by omega⟩
                  · rw [if_neg e2, if_neg (by omega)]; exact bb
                · rw [if_neg (by omega), dg (90 + 6 * s' + 4) _ (by omega) (by omega) (by omega) (by omega) (by omega) (by omega) (by omega) (by omega) (by omega) (by omega) (by omega)]
                  exact bb
            have d138 : gd 138 ((9 * p) + c) = g 138 ((9 * p) + c) := dfar 138 _ (by omega) (by omega) (by omega)
            rw [d138]
            refine lc_end d29 (by unfold jv_r; omega) (fun _ => ⟨d148, (by unfold jv_r; omega)⟩) ?_
            refine hI.right (fun i k i0 i1 i2 i3 => ?_) J78
            by_cases e : i < 126
            · exact dg i k e (by omega) (by omega) (by omega) (by omega) (by omega) (by omega) (by omega) (by omega) (by omega) (by omega)
            · by_cases e2 : i ≤ 142
              · exact dfar i k (by omega) e2 i3
              · rw [d1 i (by omega), gc1 i k (by omega) (by omega), eb, jv_up_n (by omega), b1 i k (by omega) (by omega) (by omega) (by omega) (by omega) (by omega) (by omega)]
                exact p0 i k (by omega) (by omega) (by omega)
    · refine u_helpM ra rb rc f1g f2g f3g (fun h => absurd ⟨by omega, by omega, hc⟩ h) (fun _ _ _ h => ?_) (fun _ _ _ h5 h6 _ => absurd ⟨by omega, by rw [l5]; exact h6⟩ hr) (fun _ _ _ h5 h6 _ => absurd ⟨by omega, by rw [l5]; exact h6⟩ hr)
      exact lc_end (by first | omega | (simp (disch := omega) only [jv_up_e, jv_up_i, jv_up_k]; done) | (simp (disch := omega) only [jv_up_e, jv_up_i, jv_up_k]; omega)) (by unfold jv_r; omega) (fun h9 => absurd h9 (by omega)) (hI.fr (by omega) (by (intro i k hik; (try unfold f1 at hik); (try unfold f2 at hik); (try unfold f3 at hik); (try unfold f4 at hik); (try unfold f5 at hik); (try unfold f6 at hik); (try unfold f7 at hik); (try unfold f8 at hik); (try unfold jv_scr at hik); repeat rw [jv_up_n (by omega)])))
  · refine u_helpM ra rb rc f1g f2g f3g (fun h => ?_) (fun z1 z2 z3 _ => absurd ⟨by omega, by omega, z3⟩ h) (fun z1 z2 z3 _ _ _ => absurd ⟨by omega, by omega, z3⟩ h) (fun z1 z2 z3 _ _ _ => absurd ⟨by omega, by omega, z3⟩ h)
    exact lc_end (by first | omega | (simp (disch := omega) only [jv_up_e, jv_up_i, jv_up_k]; done) | (simp (disch := omega) only [jv_up_e, jv_up_i, jv_up_k]; omega)) (by unfold jv_r; omega) (fun h9 => absurd h9 (by omega)) (hI.fr (by omega) (by (intro i k hik; (try unfold f1 at hik); (try unfold f2 at hik); (try unfold f3 at hik); (try unfold f4 at hik); (try unfold f5 at hik); (try unfold f6 at hik); (try unfold f7 at hik); (try unfold f8 at hik); (try unfold jv_scr at hik); repeat rw [jv_up_n (by omega)])))
